/** What is done with a new workshop ahead of a call that is tested. */
final class Scenes {
    static final Boundaries.Scene NEW = w -> { };

    /** A bit of everything: some of it full, some worn, lost, known to be false, given up or on a globe. */
    static final Boundaries.Scene RICH = Scenes::rich;

    static final int RICH_SPHERES = 4;
    static final int RICH_FACTS = 5;
    static final int RICH_PLATES = 2;
    static final int RICH_SHEETS = 10;
    static final int RICH_GLOBES = 3;
    static final int RICH_ISLES = 2;
    static final int RICH_STARS = 2;
    static final int RICH_SUBSCRIBERS = 3;

    /** No more can be added of anything, it is 1999, all globes are delivered and nobody waits. */
    static final Boundaries.Scene FULL = Scenes::full;

    private Scenes() {
    }

    private static void full(Globewright w) {
        for (int i = 0; i < 24; i++) {
            w.fact(100 * i, 1500, i % 3 == 0 ? 1500 : -1);
        }
        for (int plate = 0; plate < 6; plate++) {
            w.plate(10 + 100 * plate);
            w.cut(plate, plate, 5);
        }
        for (int i = 1; i < 30; i++) {
            if (i % 2 == 1) {
                w.cut(0, 7, i % 10);
            } else {
                w.hammer(0, 7);
            }
        }
        // Six sheets of each plate, one for each globe, and then two more of two plates.
        for (int sheet = 0; sheet < 40; sheet++) {
            w.print(sheet < 36 ? sheet % 6 : sheet % 2);
        }
        for (int globe = 0; globe < 6; globe++) {
            w.sphere(100 + 1000 * globe);
            w.globe(globe);
            w.subscribe(2 + globe);
            for (int plate = 0; plate < 6; plate++) {
                w.paste(globe, 6 * globe + plate);
            }
            w.deliver(globe);
            w.isle();
        }
        for (int subscriber = 6; subscriber < 10; subscriber++) {
            w.subscribe(9999);
            w.giveUp(subscriber);
        }
        for (int i = 0; i < 30; i++) {
            w.source(i % 6, 100 * i, 30 * i);
        }
        for (int i = 0; i < 12; i++) {
            w.star(300 * i, 100 * (i - 6), 1400 + 50 * i);
        }
        year(1999).set(w);
    }

    private static void rich(Globewright w) {
        w.plate(100);
        w.plate(60);
        w.fact(0, 1500, -1);
        w.fact(900, 1600, 1600);
        w.fact(1800, 1650, -1);
        w.fact(2700, 1500, 1605);
        w.fact(3599, 1400, 1999);
        w.cut(0, 0, 10);
        w.cut(0, 1, 20);
        w.cut(1, 3, 30);
        w.cut(1, 1, 59);
        w.print(0);
        w.print(1);
        w.pass(10);
        w.hammer(0, 0);
        w.cut(1, 0, 5);
        for (int sheet = 2; sheet < 9; sheet++) {
            w.print(0);
        }
        w.print(1);
        w.sphere(1000);
        w.sphere(700);
        w.sphere(500);
        w.sphere(9999);
        w.load(2, 'e', 5);
        w.load(2, 's', 7);
        for (int globe = 0; globe < 2; globe++) {
            w.globe(globe);
        }
        w.globe(3);
        w.paste(0, 0);
        w.growth(55);
        w.paste(0, 1);
        w.paste(1, 2);
        w.paste(2, 3);
        w.paste(2, 9);
        w.lose(0, 0, 0);
        w.lose(1, 0, 2);
        w.loseGore(0, 1);
        w.subscribe(101);
        w.subscribe(50);
        w.giveUp(1);
        w.pass(3);
        w.subscribe(9999);
        w.deliver(2);
        w.isle();
        w.isle();
        w.source(0, 10, 20);
        w.source(0, 3590, 15);
        w.news(3, 1600, 4);
        w.news(0, 1400, 5);
        w.claim(1, 3, 7);
        w.star(3590, 100, 1600);
        w.star(0, -900, 1400);
    }

    /** A workshop in this year. */
    static Boundaries.Scene year(int year) {
        return w -> {
            for (int left = year - 1600; left > 0; left -= 99) {
                w.pass(Math.min(left, 99));
            }
        };
    }

    static Boundaries.Scene spheres(int count) {
        return w -> {
            for (int i = 0; i < count; i++) {
                w.sphere(500);
            }
        };
    }

    /** Facts that were known long ago and are not known to be false. */
    static Boundaries.Scene facts(int count) {
        return w -> {
            for (int i = 0; i < count; i++) {
                w.fact(100 * i, 1500, -1);
            }
        };
    }

    static Boundaries.Scene plates(int count) {
        return w -> {
            for (int i = 0; i < count; i++) {
                w.plate(100);
            }
        };
    }

    /** As many globes on spheres of 500, and one plate. */
    static Boundaries.Scene globes(int count) {
        return plates(1).then(spheres(count)).then(w -> {
            for (int i = 0; i < count; i++) {
                w.globe(i);
            }
        });
    }

    /** Sheets of six plates, of each one eight and then of the next one. */
    static Boundaries.Scene sheets(int count) {
        return plates(6).then(w -> {
            for (int i = 0; i < count; i++) {
                w.print(i / 8);
            }
        });
    }

    /** Plate 0 with so many changes, 2 to 30: it shows fact 1, and fact 0 if they are even in number, and not fact 2. */
    static Boundaries.Scene changes(int count) {
        return plates(2).then(facts(3)).then(w -> {
            w.cut(0, 1, 50);
            for (int i = 1; i < count; i++) {
                if (i % 2 == 1) {
                    w.cut(0, 0, i);
                } else {
                    w.hammer(0, 0);
                }
            }
        });
    }

    static Boundaries.Scene isles(int count) {
        return w -> {
            for (int i = 0; i < count; i++) {
                w.isle();
            }
        };
    }

    /** Two isles with so many sources in all, by turns. */
    static Boundaries.Scene sources(int count) {
        return isles(2).then(w -> {
            for (int i = 0; i < count; i++) {
                w.source(i % 2, 100 * i, i);
            }
        });
    }

    static Boundaries.Scene stars(int count) {
        return w -> {
            for (int i = 0; i < count; i++) {
                w.star(100 * i, 0, 1600);
            }
        };
    }

    static Boundaries.Scene subscribers(int count) {
        return w -> {
            for (int i = 0; i < count; i++) {
                w.subscribe(100 + i);
            }
        };
    }
}
