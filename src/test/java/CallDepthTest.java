import java.io.PrintWriter;
import java.io.StringWriter;
import java.nio.file.Files;
import java.nio.file.Path;
import java.util.ArrayDeque;
import java.util.Deque;
import java.util.HashMap;
import java.util.Map;
import java.util.Optional;
import java.util.Set;
import java.util.TreeMap;
import java.util.TreeSet;
import java.util.regex.Matcher;
import java.util.regex.Pattern;
import java.util.spi.ToolProvider;
import java.util.stream.Stream;

/** Calls that are no recursion go at most eight deep (LANGUAGE.md, 11): methods that call one another count as one. */
public final class CallDepthTest {
    private static final Pattern CLASS = Pattern.compile("(?:class|interface|enum) (MissedTown[\\w$.]*)");
    private static final Pattern METHOD = Pattern.compile("^  [\\w .$\\[\\]]*?([\\w$.]+)\\([^)]*\\);$");
    private static final Pattern CALL = Pattern.compile("(?:Interface)?Method ([\\w$./]+\\.)?\"?([\\w<>]+)\"?:\\(");

    private final Map<String, Set<String>> calls = new TreeMap<>();
    private final Map<String, Set<String>> reached = new HashMap<>();
    private final Map<String, Integer> depths = new HashMap<>();

    private CallDepthTest() {
    }

    public static void main(String[] args) throws Exception {
        Optional<ToolProvider> javap = ToolProvider.findFirst("javap");
        if (javap.isPresent()) {
            new CallDepthTest().measure(javap.get());
        } else {
            System.out.println("there is no javap to count the depth of calls by");
        }
        Checks.end();
    }

    private void measure(ToolProvider javap) throws Exception {
        Path classes = Path.of(MissedTown.class.getProtectionDomain().getCodeSource().getLocation().toURI());
        try (Stream<Path> files = Files.list(classes)) {
            files.filter(file -> file.getFileName().toString().startsWith("MissedTown")).sorted().forEach(file -> read(javap, file));
        }
        Checks.due("the methods of the face were found", calls.size() > 33, true);
        for (String method : calls.keySet()) {
            Checks.due("calls below " + method, depthOf(method) <= 8, true);
        }
    }

    private void read(ToolProvider javap, Path file) {
        StringWriter text = new StringWriter();
        javap.run(new PrintWriter(text), new PrintWriter(System.err), "-c", "-p", file.toString());
        String type = "";
        String method = "";
        for (String line : text.toString().split("\n")) {
            Matcher typeHere = CLASS.matcher(line);
            Matcher methodHere = METHOD.matcher(line);
            Matcher callHere = CALL.matcher(line);
            if (!line.startsWith(" ") && typeHere.find()) {
                type = typeHere.group(1);
            } else if (methodHere.find()) {
                String name = methodHere.group(1);
                method = type + "." + (name.equals(type) ? "<init>" : name);
                calls.put(method, new TreeSet<>());
            } else if (line.contains("invoke") && callHere.find()) {
                String owner = callHere.group(1) == null ? type + "." : callHere.group(1);
                calls.get(method).add(owner + callHere.group(2));
            }
        }
    }

    /** All that a method calls, and what those call, and so on. */
    private Set<String> reachedBy(String method) {
        if (!reached.containsKey(method)) {
            Set<String> found = new TreeSet<>();
            Deque<String> open = new ArrayDeque<>(calls.getOrDefault(method, Set.of()));
            while (!open.isEmpty()) {
                String next = open.pop();
                if (found.add(next)) {
                    open.addAll(calls.getOrDefault(next, Set.of()));
                }
            }
            reached.put(method, found);
        }
        return reached.get(method);
    }

    private boolean callOneAnother(String a, String b) {
        return a.equals(b) || reachedBy(a).contains(b) && reachedBy(b).contains(a);
    }

    private int depthOf(String method) {
        if (!depths.containsKey(method)) {
            int below = 0;
            Set<String> together = new TreeSet<>(reachedBy(method));
            together.add(method);
            together.removeIf(other -> !callOneAnother(method, other));
            for (String member : together) {
                for (String next : calls.getOrDefault(member, Set.of())) {
                    below = together.contains(next) ? below : Math.max(below, depthOf(next));
                }
            }
            depths.put(method, below + 1);
        }
        return depths.get(method);
    }
}
