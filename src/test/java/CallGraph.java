import java.util.ArrayList;
import java.util.List;
import java.util.Map;
import java.util.Set;
import java.util.TreeMap;
import java.util.TreeSet;
import java.util.regex.Matcher;
import java.util.regex.Pattern;

/**
 * Which method calls which, told by their names in the source. Methods of the same name are taken as one, so that a
 * chain may look longer than it is, but never shorter.
 */
final class CallGraph {
    private static final Pattern HEAD = Pattern.compile(
        "^( {4}| {8})((?:(?:public|private|static|final) )*)(?:int|long|boolean|void) (\\w+)\\([^)]*\\) \\{$");
    private static final Pattern CALL = Pattern.compile("(\\w+)\\(");

    private final Map<String, Set<String>> callees = new TreeMap<>();
    private final Set<String> openNames = new TreeSet<>();

    CallGraph(String source) {
        String[] lines = source.split("\n");
        for (int pass = 0; pass < 2; pass++) {
            for (int i = 0; i < lines.length; i++) {
                Matcher head = HEAD.matcher(lines[i]);
                if (head.matches() && pass == 0) {
                    callees.putIfAbsent(head.group(3), new TreeSet<>());
                    if (!head.group(2).contains("private")) {
                        openNames.add(head.group(3));
                    }
                } else if (head.matches()) {
                    read(lines, i, head);
                }
            }
        }
    }

    private void read(String[] lines, int start, Matcher head) {
        for (int i = start + 1; i < lines.length && !lines[i].equals(head.group(1) + "}"); i++) {
            Matcher call = CALL.matcher(lines[i].replaceAll("//.*", ""));
            while (call.find()) {
                if (callees.containsKey(call.group(1))) {
                    callees.get(head.group(3)).add(call.group(1));
                }
            }
        }
    }

    int size() {
        return callees.size();
    }

    /** The methods that call themselves. */
    List<String> recursive() {
        List<String> names = new ArrayList<>();
        callees.forEach((name, called) -> {
            if (called.contains(name)) {
                names.add(name);
            }
        });
        return names;
    }

    boolean isOpen(String name) {
        return openNames.contains(name);
    }

    /** The longest chain of calls in which no method calls itself; null if methods call one another in a circle. */
    List<String> longestChain() {
        List<String> longest = new ArrayList<>();
        for (String name : callees.keySet()) {
            List<String> chain = chainFrom(name, new ArrayList<>());
            if (chain == null) {
                return null;
            }
            longest = chain.size() > longest.size() ? chain : longest;
        }
        return longest;
    }

    private List<String> chainFrom(String name, List<String> above) {
        if (above.contains(name)) {
            return null;
        }
        above.add(name);
        List<String> longest = new ArrayList<>();
        for (String called : callees.get(name)) {
            List<String> chain = called.equals(name) ? List.of() : chainFrom(called, above);
            if (chain == null) {
                return null;
            }
            longest = chain.size() > longest.size() ? chain : longest;
        }
        above.remove(above.size() - 1);
        List<String> whole = new ArrayList<>(List.of(name));
        whole.addAll(longest);
        return whole;
    }
}
