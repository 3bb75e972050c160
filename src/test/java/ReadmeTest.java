import java.io.File;
import java.lang.reflect.InvocationTargetException;
import java.lang.reflect.Method;
import java.lang.reflect.Modifier;
import java.nio.file.Files;
import java.nio.file.Path;
import java.util.ArrayList;
import java.util.Arrays;
import java.util.List;
import java.util.Set;
import java.util.TreeSet;
import java.util.regex.Matcher;
import java.util.regex.Pattern;
import java.util.stream.Collectors;

/** What README.md tells of the class and of its tests is so. */
public final class ReadmeTest {
    /** A call of the examples with its answer, or the exception that it throws, told behind it. */
    private static final Pattern EXAMPLE = Pattern.compile("workshop\\.(\\w+)\\((.*)\\); +// (\\w+): .+");
    private static final Checks check = new Checks();
    private static String readme;

    public static void main(String[] args) throws Exception {
        readme = Files.readString(Path.of("README.md"));
        examples();
        calls();
        exceptions();
        tests();
        check.end();
    }

    private static void examples() throws Exception {
        Globewright workshop = new Globewright();
        int count = 0;
        for (String line : readme.split("\n")) {
            Matcher example = EXAMPLE.matcher(line);
            if (line.startsWith("workshop.")) {
                check.holds(example.matches(), "no answer is told: " + line);
                String has = answer(workshop, example.group(1), example.group(2));
                check.holds(has.equals(example.group(3)), line + " - but it answered " + has);
                count++;
            }
        }
        check.yes(count > 20);
    }

    private static String answer(Globewright workshop, String name, String arguments) throws Exception {
        List<Object> values = new ArrayList<>();
        for (String argument : arguments.isEmpty() ? new String[0] : arguments.split(", ")) {
            values.add(value(argument));
        }
        for (Method method : face()) {
            if (method.getName().equals(name) && method.getParameterCount() == values.size()) {
                return answer(workshop, method, values.toArray());
            }
        }
        return "there is no such call";
    }

    private static String answer(Globewright workshop, Method method, Object[] arguments) throws Exception {
        try {
            return String.valueOf(method.invoke(workshop, arguments));
        } catch (InvocationTargetException e) {
            return e.getCause().getClass().getSimpleName();
        }
    }

    private static Object value(String argument) {
        if (argument.startsWith("'")) {
            return argument.charAt(1);
        }
        return argument.matches("true|false") ? (Object) Boolean.valueOf(argument) : (Object) Integer.valueOf(argument);
    }

    private static List<Method> face() {
        return Arrays.stream(Globewright.class.getDeclaredMethods())
                .filter(method -> Modifier.isPublic(method.getModifiers()))
                .collect(Collectors.toList());
    }

    /** Each call stands in the table of calls, once, with as many arguments as it takes. */
    private static void calls() {
        String table = section("## The calls");
        Set<String> due = new TreeSet<>();
        for (Method method : face()) {
            due.add(method.getName() + " " + method.getParameterCount());
        }
        List<String> told = new ArrayList<>();
        Matcher call = Pattern.compile("`(\\w+)\\((.*?)\\)`").matcher(table);
        while (call.find()) {
            int arguments = call.group(2).isEmpty() ? 0 : call.group(2).split(", ").length;
            told.add(call.group(1) + " " + arguments);
        }
        check.equal(told.size(), due.size());
        check.holds(new TreeSet<>(told).equals(due), "the calls are " + due + ", but README.md tells " + told);
    }

    /** Each exception stands in its table, with each call that is named there one that can throw it. */
    private static void exceptions() {
        Set<String> due = new TreeSet<>();
        for (Method method : face()) {
            for (Class<?> thrown : method.getExceptionTypes()) {
                due.add(thrown.getSimpleName());
            }
        }
        Set<String> told = new TreeSet<>();
        for (String line : section("## What the exceptions tell").split("\n")) {
            if (line.matches("\\| `\\w+` \\| .*")) {
                String exception = line.split("`")[1];
                told.add(exception);
                callsIn(line).forEach(name -> check.holds(throwers(exception).contains(name),
                        name + " does not throw " + exception));
                boolean isEachNamed = !exception.matches("Uns.*|NoS.*|Ari.*");
                check.holds(isEachNamed || callsIn(line).equals(throwers(exception)),
                        exception + " is thrown by " + throwers(exception) + ", told are " + callsIn(line));
            }
        }
        check.holds(told.equals(due), "the exceptions are " + due + ", but README.md tells " + told);
    }

    private static Set<String> callsIn(String line) {
        Set<String> names = new TreeSet<>();
        Matcher name = Pattern.compile("`([a-z]\\w*)`").matcher(line);
        while (name.find()) {
            names.add(name.group(1));
        }
        return names;
    }

    private static Set<String> throwers(String exception) {
        Set<String> names = new TreeSet<>();
        for (Method method : face()) {
            boolean isThrown = Arrays.stream(method.getExceptionTypes())
                    .anyMatch(thrown -> thrown.getSimpleName().equals(exception));
            if (isThrown) {
                names.add(method.getName());
            }
        }
        return names;
    }

    private static void tests() {
        String section = section("## Tests");
        Set<String> due = new TreeSet<>();
        for (String file : new File("src/test/java").list()) {
            if (file.endsWith("Test.java")) {
                due.add(file.replace(".java", ""));
            }
        }
        Set<String> told = new TreeSet<>();
        for (String line : section.split("\n")) {
            if (line.startsWith("| `")) {
                told.add(line.split("`")[1]);
            }
        }
        check.holds(told.equals(due), "the tests are " + due + ", but README.md tells " + told);
        Matcher file = Pattern.compile("(?<![*\\w./])[\\w./]+\\.java\\b").matcher(section + section("## Making"));
        while (file.find()) {
            boolean isThere = Files.exists(Path.of(file.group())) || file.group().equals("Example.java");
            check.holds(isThere, "there is no " + file.group());
        }
        check.yes(Files.isExecutable(Path.of(".ci/run")));
    }

    private static String section(String heading) {
        int begin = readme.indexOf(heading);
        check.holds(begin >= 0, "no section " + heading);
        int end = readme.indexOf("\n## ", begin + 1);
        return readme.substring(begin, end < 0 ? readme.length() : end);
    }
}
