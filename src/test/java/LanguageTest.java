import com.sun.source.tree.CompilationUnitTree;
import com.sun.source.tree.ImportTree;
import com.sun.source.util.JavacTask;
import java.io.IOException;
import java.nio.charset.StandardCharsets;
import java.nio.file.Files;
import java.nio.file.Path;
import java.util.HashMap;
import java.util.HashSet;
import java.util.List;
import java.util.Map;
import java.util.Set;
import javax.tools.JavaCompiler;
import javax.tools.JavaFileObject;
import javax.tools.StandardJavaFileManager;
import javax.tools.ToolProvider;

/**
 * The class keeps to ../shared/LANGUAGE.md, as far as its text shows it. This asks for less than the rules allow: for
 * what the class has need of. Who needs more of them widens it here.
 */
final class LanguageTest {
    private static final Path SOURCE = Path.of("src/main/java/LinageOffice.java");
    private static final int MOST_CLASSES = 12;
    private static final int MOST_FIELDS = 20;
    private static final int MOST_PARAMETERS = 7;
    private static final int MOST_METHOD_LINES = 60;
    private static final int MOST_DEPTH = 8;

    private final Check check;
    private final SourceRules rules;

    private LanguageTest(Check check, SourceRules rules) {
        this.check = check;
        this.rules = rules;
    }

    static void runAll(Check check) {
        try {
            CompilationUnitTree unit = parsed();
            SourceRules rules = new SourceRules(unit);
            rules.scan(unit, null);
            LanguageTest test = new LanguageTest(check, rules);
            test.file(unit);
            test.told();
            test.sizes();
            test.depth();
        } catch (IOException e) {
            throw new IllegalStateException("the tests run in the project's own directory", e);
        }
    }

    private static CompilationUnitTree parsed() throws IOException {
        JavaCompiler compiler = ToolProvider.getSystemJavaCompiler();
        StandardJavaFileManager files = compiler.getStandardFileManager(null, null, StandardCharsets.US_ASCII);
        Iterable<? extends JavaFileObject> sources = files.getJavaFileObjects(SOURCE);
        JavacTask task = (JavacTask) compiler.getTask(null, files, null, null, null, sources);
        return task.parse().iterator().next();
    }

    private void file(CompilationUnitTree unit) throws IOException {
        check.due("rule 1: a package line", unit.getPackageName() != null, false);
        check.due("rule 2: one class in the file", unit.getTypeDecls().size(), 1);
        for (ImportTree used : unit.getImports()) {
            check.dueText("rule 4: import", used.toString().trim(), "import java.util.NoSuchElementException;");
        }
        boolean isPlain = Files.readAllBytes(SOURCE).length == Files.readString(SOURCE).length();
        check.due("rule 4: signs 1 to 127 alone", isPlain, true);
    }

    private void told() {
        for (String fault : rules.faults) {
            check.dueText("language", fault, "nothing");
        }
        check.due("language: faults", rules.faults.size(), 0);
        check.due("rule 6: there are throws to look at", rules.thrown > 10, true);
    }

    private void sizes() {
        check.due("rule 11: classes, " + rules.classes.size(), rules.classes.size() <= MOST_CLASSES, true);
        rules.fieldsOf.forEach((name, many) ->
            check.due("rule 11: fields of " + name + ", " + many, many <= MOST_FIELDS, true));
        rules.parametersOf.forEach((name, many) ->
            check.due("rule 11: parameters of " + name + ", " + many, many <= MOST_PARAMETERS, true));
        rules.linesOf.forEach((name, many) ->
            check.due("rule 11: lines of " + name + ", " + many, many <= MOST_METHOD_LINES, true));
    }

    /** No two methods bear one name, so the names tell which calls which; and none calls itself, by however many. */
    private void depth() {
        check.due("rule 1: each name is that of one method", rules.callsOf.size(), rules.methods);
        Map<String, Integer> depths = new HashMap<>();
        for (String name : rules.callsOf.keySet()) {
            int depth = depthOf(name, depths, new HashSet<>());
            check.due("rule 11: calls below " + name + ", " + depth, depth <= MOST_DEPTH, true);
        }
    }

    private int depthOf(String name, Map<String, Integer> depths, Set<String> open) {
        if (depths.containsKey(name)) {
            return depths.get(name);
        }
        if (!open.add(name)) {
            check.dueText("rule 8: recursion", name, "nothing");
            return 0;
        }
        int deepest = 0;
        for (String called : rules.callsOf.getOrDefault(name, List.of())) {
            if (rules.callsOf.containsKey(called)) {
                deepest = Math.max(deepest, depthOf(called, depths, open));
            }
        }
        open.remove(name);
        depths.put(name, deepest + 1);
        return deepest + 1;
    }
}
