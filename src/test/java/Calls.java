import java.nio.file.Files;
import java.nio.file.Path;
import java.util.ArrayList;
import java.util.List;
import java.util.Map;
import java.util.Set;
import java.util.TreeMap;
import java.util.TreeSet;
import java.util.regex.Matcher;
import java.util.regex.Pattern;

/**
 * LANGUAGE.md's rules 8 and 11, by which methods call which: seen in the text of the class, by how far in its lines
 * stand. A call by another object may be of any class inside that has a method of that name: so the depth told here is
 * never too small. Runs in the project's root.
 */
public final class Calls {
    private static final String OUTER = "FeetHorns";
    private static final int DEEPEST = 8;
    private static final Pattern CLASS = Pattern.compile("    private static final class (\\w+) \\{");
    private static final Pattern HEAD = Pattern.compile("(?:    ){1,2}(?:(public|private) )?(static )?(?:\\w+(?:\\[\\])* )?(\\w+)\\(.*\\{");
    private static final Pattern CALL = Pattern.compile("(new |\\.)?\\b(\\w+)\\(");

    /** By "Class.method". */
    private static final Map<String, Set<String>> calls = new TreeMap<>();
    private static final Map<String, String> heads = new TreeMap<>();
    private static int wrong = 0;

    public static void main(String[] args) throws Exception {
        String source = Files.readString(Path.of("src/main/java/FeetHorns.java"));
        List<String> lines = List.of(withoutWords(source).split("\n"));
        readHeads(lines);
        due("the methods of the face are found", heads.values().stream().filter(h -> h.contains("public ")).count() == 34);
        readCalls(lines);
        due("a call within a class is found", calls.get("FeetHorns.fits").contains("FeetHorns.searchFitting"));
        due("a call of another class is found", calls.get("FeetHorns.look").contains("Sight.look"));
        int deepest = 0;
        for (String method : heads.keySet()) {
            recursion(method);
            if (heads.get(method).contains("public ")) {
                int depth = depth(method);
                due("11: " + method + " goes " + depth + " deep", depth <= DEEPEST);
                deepest = Math.max(deepest, depth);
            }
        }
        System.out.println("calls: " + heads.size() + " methods, " + deepest + " deep, " + wrong + " not as due");
        if (wrong != 0) {
            System.exit(1);
        }
    }

    private static void due(String what, boolean is) {
        if (!is) {
            wrong++;
            System.out.println(what);
        }
    }

    private static String withoutWords(String source) {
        return source.replaceAll("(?s)/\\*.*?\\*/", "").replaceAll("//.*", "").replaceAll("\"[^\"\n]*\"|'[^'\n]*'", "0");
    }

    private interface Line {
        /** The class and the method that a line stands in ("" outside of methods), whether it is the method's head. */
        void at(String owner, String method, boolean isHead, String line);
    }

    private static void each(List<String> lines, Line what) {
        String owner = OUTER;
        String method = "";
        for (String line : lines) {
            Matcher c = CLASS.matcher(line);
            String in = owner.equals(OUTER) ? "    " : "        ";
            if (c.matches()) {
                owner = c.group(1);
            } else if (line.equals("    }") && !owner.equals(OUTER)) {
                owner = OUTER;
            } else if (method.isEmpty() && line.startsWith(in) && !line.startsWith(in + " ")) {
                Matcher head = HEAD.matcher(line);
                if (head.matches()) {
                    method = owner + "." + head.group(3);
                    what.at(owner, method, true, line);
                }
            } else if (line.equals(in + "}")) {
                method = "";
            } else if (!method.isEmpty()) {
                what.at(owner, method, false, line);
            }
        }
    }

    private static void readHeads(List<String> lines) {
        each(lines, (owner, method, isHead, line) -> {
            if (isHead) {
                due("two methods of one name: " + method, !heads.containsKey(method));
                heads.put(method, line);
                calls.put(method, new TreeSet<>());
            }
        });
    }

    private static void readCalls(List<String> lines) {
        each(lines, (owner, method, isHead, line) -> {
            if (isHead) {
                return;
            }
            Matcher call = CALL.matcher(line);
            while (call.find()) {
                calls.get(method).addAll(called(owner, call.group(1), call.group(2)));
            }
        });
    }

    private static List<String> called(String owner, String ahead, String name) {
        List<String> found = new ArrayList<>();
        if (ahead == null) {
            String own = owner + "." + name;
            found.add(heads.containsKey(own) ? own : OUTER + "." + name);
        } else if (ahead.equals("new ")) {
            found.add(name + "." + name);
        } else {
            for (String method : heads.keySet()) {
                if (!method.startsWith(OUTER + ".") && method.endsWith("." + name)) {
                    found.add(method);
                }
            }
        }
        found.removeIf(method -> !heads.containsKey(method));
        return found;
    }

    /** All that a method calls, by any way. */
    private static Set<String> reached(String from) {
        Set<String> reached = new TreeSet<>();
        List<String> next = new ArrayList<>(calls.get(from));
        while (!next.isEmpty()) {
            String method = next.remove(next.size() - 1);
            if (reached.add(method)) {
                next.addAll(calls.get(method));
            }
        }
        return reached;
    }

    private static void recursion(String method) {
        if (reached(method).contains(method)) {
            due("8: a recursion that is not private: " + method, heads.get(method).contains("private "));
            due("8: calls itself, but is not static: " + method,
                !calls.get(method).contains(method) || heads.get(method).contains("static "));
            due("8: no depth is carried: " + method, heads.get(method).matches(".*int (depth|open)\\b.*"));
        }
    }

    /** How many methods stand open at once, each one of a recursion once. */
    private static int depth(String method) {
        return depth(method, new TreeSet<>());
    }

    private static int depth(String method, Set<String> open) {
        open.add(method);
        int deepest = 0;
        for (String next : calls.get(method)) {
            if (!open.contains(next)) {
                deepest = Math.max(deepest, depth(next, open));
            }
        }
        open.remove(method);
        return 1 + deepest;
    }
}
