import java.io.IOException;
import java.io.PrintWriter;
import java.io.StringWriter;
import java.net.URISyntaxException;
import java.nio.file.Files;
import java.nio.file.Path;
import java.util.HashMap;
import java.util.HashSet;
import java.util.List;
import java.util.Map;
import java.util.Optional;
import java.util.Set;
import java.util.TreeMap;
import java.util.TreeSet;
import java.util.regex.Matcher;
import java.util.regex.Pattern;
import java.util.spi.ToolProvider;
import java.util.stream.Collectors;
import java.util.stream.Stream;

/** Calls that are no recursion go at most eight deep, and only those that are meant to do so call themselves. */
public final class DepthTest {
    private static final int MOST_DEEP = 8;
    private static final Set<String> RECURSIVE = Set.of("readCondition", "readTruth", "readUnit", "readSum", "readTerm", "readAtom",
        "canFinish", "lower");
    private static final Pattern HEAD = Pattern.compile("^  (?:[\\w\\[\\]. $]+ )?([\\w$.]+)\\(.*\\)(?: throws .*)?;$");
    private static final Pattern CALL = Pattern.compile("// Method (?:(\\S+?)\\.)?\"?(<?\\w+>?)\"?:");

    private final Map<String, Set<String>> calls = new TreeMap<>();
    private final Map<String, Integer> depths = new HashMap<>();

    private DepthTest() {
    }

    public static void main(String[] args) throws IOException, URISyntaxException {
        Optional<ToolProvider> javap = ToolProvider.findFirst("javap");
        if (javap.isEmpty()) {
            System.out.println("there is no javap, so nobody knows how deep calls go");
            return;
        }
        Check check = new Check();
        new DepthTest().ask(javap.get(), check);
        check.finish();
    }

    private void ask(ToolProvider javap, Check check) throws IOException, URISyntaxException {
        Path classes = Path.of(HoldTwo.class.getProtectionDomain().getCodeSource().getLocation().toURI());
        for (Path file : filesOf(classes)) {
            read(javap, file);
        }
        check.that("methods", calls.size() > 100, "only " + calls.size() + " were found");
        for (String method : calls.keySet()) {
            boolean isRecursive = reached(method).contains(method);
            String name = method.substring(method.indexOf('.') + 1);
            check.that(method, isRecursive == RECURSIVE.contains(name), isRecursive ? "calls itself" : "does not call itself");
        }
        for (String method : calls.keySet()) {
            check.that(method, depth(method) <= MOST_DEEP, "goes " + depth(method) + " deep");
        }
    }

    private static List<Path> filesOf(Path classes) throws IOException {
        try (Stream<Path> files = Files.list(classes)) {
            return files.filter(file -> file.getFileName().toString().matches("HoldTwo(\\$.*)?\\.class")).collect(Collectors.toList());
        }
    }

    private void read(ToolProvider javap, Path file) {
        StringWriter text = new StringWriter();
        PrintWriter writer = new PrintWriter(text);
        javap.run(writer, writer, "-c", "-p", file.toString());
        String name = file.getFileName().toString().replace(".class", "");
        String method = null;
        for (String line : text.toString().split("\\R")) {
            Matcher head = HEAD.matcher(line);
            if (head.matches()) {
                boolean isConstructor = head.group(1).replace('.', '$').equals(name);
                method = name + "." + (isConstructor ? "<init>" : head.group(1));
                calls.putIfAbsent(method, new TreeSet<>());
            }
            Matcher call = CALL.matcher(line);
            if (method != null && call.find()) {
                String of = call.group(1) == null ? name : call.group(1);
                calls.get(method).add(of + "." + call.group(2));
            }
        }
    }

    private Set<String> reached(String from) {
        Set<String> all = new HashSet<>();
        List<String> next = List.copyOf(calls.get(from));
        while (!next.isEmpty()) {
            all.addAll(next);
            next = next.stream().flatMap(method -> calls.getOrDefault(method, Set.of()).stream())
                .filter(method -> !all.contains(method)).distinct().collect(Collectors.toList());
        }
        return all;
    }

    /** The most calls that stand open at once from this one on, those of recursions and of the library left out. */
    private int depth(String method) {
        Integer known = depths.get(method);
        if (known != null) {
            return known;
        }
        if (!calls.containsKey(method)) {
            return 0;
        }
        boolean isRecursive = RECURSIVE.contains(method.substring(method.indexOf('.') + 1));
        Set<String> group = isRecursive ? reached(method) : Set.of(method);
        int deepest = 0;
        for (String inner : group) {
            boolean isIn = reachesBack(inner, method, isRecursive);
            for (String called : isIn ? calls.getOrDefault(inner, Set.of()) : Set.<String>of()) {
                if (!reachesBack(called, method, isRecursive) && !called.equals(method)) {
                    deepest = Math.max(deepest, depth(called));
                }
            }
        }
        depths.put(method, deepest + (isRecursive ? 0 : 1));
        return depths.get(method);
    }

    private boolean reachesBack(String inner, String method, boolean isRecursive) {
        return inner.equals(method) || isRecursive && calls.containsKey(inner) && reached(inner).contains(method);
    }
}
