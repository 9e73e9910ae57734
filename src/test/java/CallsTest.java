import java.io.PrintWriter;
import java.io.StringWriter;
import java.util.HashSet;
import java.util.Map;
import java.util.Set;
import java.util.TreeMap;
import java.util.TreeSet;
import java.util.regex.Matcher;
import java.util.regex.Pattern;
import java.util.spi.ToolProvider;

/** Rules 8 and 11: how deep calls go, and which methods call one another in a circle, as the compiled class has it. */
public final class CallsTest {
    private static final Checks CHECKS = new Checks();
    private static final int DEEPEST = 8;
    private static final Pattern METHOD = Pattern.compile("^  (?:[\\w$.\\[\\]]+ )*([\\w$]+)\\(.*\\);$");
    private static final Pattern CALL = Pattern.compile("invoke\\w+ .*// (?:Interface)?Method (?:([\\w$/]+)\\.)?\"?([\\w<>]+)\"?:");

    private final Map<String, Set<String>> calls = new TreeMap<>();

    public static void main(String[] args) {
        CallsTest test = new CallsTest();
        test.readClass("HideReader");
        for (Class<?> inside : HideReader.class.getDeclaredClasses()) {
            test.readClass(inside.getName());
        }
        test.circles();
        test.depths();
        CHECKS.close("CallsTest");
    }

    private void readClass(String name) {
        StringWriter out = new StringWriter();
        ToolProvider.findFirst("javap").orElseThrow()
            .run(new PrintWriter(out), new PrintWriter(out), "-p", "-c", "-cp", System.getProperty("java.class.path"), name);
        Set<String> current = new HashSet<>();
        for (String line : out.toString().split("\n")) {
            Matcher method = METHOD.matcher(line);
            Matcher call = CALL.matcher(line);
            if (method.find()) {
                String simple = method.group(1).equals(name) ? "<init>" : method.group(1);
                current = calls.computeIfAbsent(name + "." + simple, m -> new TreeSet<>());
            } else if (call.find()) {
                current.add((call.group(1) == null ? name : call.group(1)) + "." + call.group(2));
            }
        }
    }

    private boolean reaches(String from, String to, Set<String> passed) {
        for (String next : calls.getOrDefault(from, Set.of())) {
            if (next.equals(to) || (passed.add(next) && reaches(next, to, passed))) {
                return true;
            }
        }
        return false;
    }

    private Set<String> inCircles() {
        Set<String> circle = new TreeSet<>();
        for (String method : calls.keySet()) {
            if (reaches(method, method, new HashSet<>())) {
                circle.add(method.substring(method.indexOf('.') + 1));
            }
        }
        return circle;
    }

    /** Only a formula is read by recursion, and how deep it goes is carried along as an argument. */
    private void circles() {
        CHECKS.due("methods were read", calls.size() > 150, true);
        CHECKS.due("what calls itself", inCircles().toString(), "[readBoth, readEither, readOne, readSum, readTerm, readUnit]");
    }

    /** Methods that call one another in a circle are recursion, and count as one. */
    private void depths() {
        Set<String> circle = new TreeSet<>();
        for (String method : inCircles()) {
            circle.add("HideReader$TextReader." + method);
        }
        for (String method : calls.keySet()) {
            int depth = depthOf(method, circle);
            CHECKS.due("calls from " + method + " go " + depth + " deep", depth <= DEEPEST, true);
        }
    }

    private int depthOf(String method, Set<String> circle) {
        Set<String> next = new TreeSet<>(calls.getOrDefault(method, Set.of()));
        if (circle.contains(method)) {
            circle.forEach(m -> next.addAll(calls.get(m)));
            next.removeAll(circle);
        }
        int deepest = 0;
        for (String called : next) {
            deepest = Math.max(deepest, depthOf(called, circle));
        }
        return deepest + 1;
    }
}
