import com.sun.source.tree.ClassTree;
import com.sun.source.tree.CompilationUnitTree;
import com.sun.source.tree.ImportTree;
import com.sun.source.tree.Tree;
import com.sun.source.util.JavacTask;
import com.sun.source.util.Trees;
import java.io.IOException;
import java.io.StringWriter;
import java.net.URI;
import java.util.ArrayList;
import java.util.List;
import java.util.Set;
import java.util.TreeSet;
import javax.lang.model.element.Modifier;
import javax.tools.JavaCompiler;
import javax.tools.JavaFileObject;
import javax.tools.SimpleJavaFileObject;
import javax.tools.ToolProvider;

/**
 * Tells where a program does not keep to ../shared/LANGUAGE.md, each fault behind the number of its
 * rule. It is stricter than the page where that is simpler and the program has no need of more:
 * no local or anonymous classes, no inner ones, no recursion, no casts to classes.
 */
final class LanguageRules {
    private static final Set<String> IMPORTS = Set.of("java.util.ArrayList", "java.util.List", "java.util.Iterator",
            "java.util.Arrays", "java.util.NoSuchElementException");
    private static final int MOST_CLASSES = 12;

    private final List<String> faults = new ArrayList<>();

    private LanguageRules() {
    }

    static List<String> faultsOf(String program) {
        LanguageRules rules = new LanguageRules();
        try {
            rules.read(program);
        } catch (IOException e) {
            throw new IllegalStateException(e);
        }
        return rules.faults;
    }

    private void read(String program) throws IOException {
        JavaCompiler compiler = ToolProvider.getSystemJavaCompiler();
        StringWriter messages = new StringWriter();
        JavacTask task = (JavacTask) compiler.getTask(messages, null, null, List.of("-proc:none", "--release", "17"), null,
                List.of(new ProgramText(program)));
        List<CompilationUnitTree> units = new ArrayList<>();
        task.parse().forEach(units::add);
        task.analyze();
        if (!messages.toString().isEmpty()) {
            faults.add("does not compile: " + messages);
            return;
        }
        for (CompilationUnitTree unit : units) {
            unit(unit);
            LanguageScan scan = new LanguageScan(unit, Trees.instance(task), faults);
            scan.scan(unit, null);
            scan.calls();
        }
    }

    private void unit(CompilationUnitTree unit) {
        require(unit.getPackageName() == null, 1, "a package line");
        for (ImportTree taken : unit.getImports()) {
            String name = taken.getQualifiedIdentifier().toString();
            require(IMPORTS.contains(name), 4, "import of " + name);
        }
        require(unit.getTypeDecls().size() == 1, 1, unit.getTypeDecls().size() + " classes beside each other");
        for (Tree declared : unit.getTypeDecls()) {
            if (declared instanceof ClassTree) {
                outer((ClassTree) declared);
                int count = classesIn((ClassTree) declared);
                require(count <= MOST_CLASSES, 11, count + " classes");
            }
        }
    }

    private void outer(ClassTree outer) {
        Set<Modifier> due = Set.of(Modifier.PUBLIC, Modifier.FINAL);
        require(outer.getModifiers().getFlags().equals(due), 1, "a class that is not public and final alone");
        Set<String> face = new TreeSet<>();
        Set<String> hidden = new TreeSet<>();
        LanguageScan.methodNames(outer, face, hidden);
        hidden.retainAll(face);
        require(hidden.isEmpty(), 1, "private methods with the names of public ones: " + hidden);
    }

    private static int classesIn(ClassTree tree) {
        int count = 1;
        for (Tree member : tree.getMembers()) {
            count += member instanceof ClassTree ? classesIn((ClassTree) member) : 0;
        }
        return count;
    }

    private void require(boolean holds, int rule, String fault) {
        if (!holds) {
            faults.add("rule " + rule + ": " + fault);
        }
    }

    private static final class ProgramText extends SimpleJavaFileObject {
        private final String text;

        ProgramText(String text) {
            super(URI.create("string:///Globewright.java"), JavaFileObject.Kind.SOURCE);
            this.text = text;
        }

        @Override
        public CharSequence getCharContent(boolean ignoreEncodingErrors) {
            return text;
        }
    }
}
