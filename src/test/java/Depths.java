import java.io.File;
import java.io.PrintWriter;
import java.io.StringWriter;
import java.util.ArrayList;
import java.util.HashMap;
import java.util.HashSet;
import java.util.LinkedHashMap;
import java.util.List;
import java.util.Map;
import java.util.Set;
import java.util.TreeSet;
import java.util.regex.Matcher;
import java.util.regex.Pattern;
import java.util.spi.ToolProvider;

/** Which method calls which, read off the compiled class: how deep calls go (rule 11), and what calls itself (rule 8). */
public final class Depths {
    private static final int DEEPEST = 8;
    private static final Pattern CLASS = Pattern.compile("^(?:.* )?class ([\\w$]+)(?: extends ([\\w$.]+))?.* ?\\{$");
    private static final Pattern METHOD = Pattern.compile("^  (?:[\\w$.\\[\\]]+ )*([\\w$]+)\\((.*)\\).*;$");
    private static final Pattern CALL = Pattern.compile("// Method (?:([\\w$/]+)\\.)?\"?(<?\\w+>?)\"?:\\(");

    /** Of each method, as class.method, those that it calls in the class's own file. */
    private final Map<String, Set<String>> calls = new LinkedHashMap<>();
    private final Map<String, List<String>> heirs = new HashMap<>();
    private final Map<String, Integer> known = new HashMap<>();
    private final Set<String> open = new HashSet<>();
    private final Set<String> again = new TreeSet<>();

    public static void main(String[] args) {
        Depths depths = new Depths();
        depths.read(bytecode());
        depths.addHeirs();
        Check.due("methods are read", () -> depths.calls.size() > 60 ? 1 : 0, 1);
        for (String method : depths.calls.keySet()) {
            Check.due("depth below " + method + " is too deep", () -> depths.depthOf(method) <= DEEPEST ? 1 : 0, 1);
        }
        Check.due("what calls itself: " + depths.again, () -> depths.again.equals(Set.of("TabledGoals$Walk.body")) ? 1 : 0, 1);
        System.out.println("deepest: " + depths.known.values().stream().max(Integer::compare).orElse(0));
        Check.end();
    }

    private static String bytecode() {
        File folder = new File(System.getProperty("java.class.path"));
        List<String> words = new ArrayList<>(List.of("-p", "-c"));
        for (String file : folder.list()) {
            if (file.startsWith("TabledGoals") && !file.startsWith("TabledGoalsRuns") && file.endsWith(".class")) {
                words.add(new File(folder, file).getPath());
            }
        }
        StringWriter text = new StringWriter();
        ToolProvider javap = ToolProvider.findFirst("javap").orElseThrow();
        javap.run(new PrintWriter(text), new PrintWriter(System.err), words.toArray(new String[0]));
        return text.toString();
    }

    private void read(String bytecode) {
        String inside = "";
        String method = "";
        for (String line : bytecode.split("\n")) {
            Matcher c = CLASS.matcher(line);
            Matcher m = METHOD.matcher(line);
            Matcher call = CALL.matcher(line);
            if (c.find()) {
                inside = c.group(1);
                heirs.computeIfAbsent(c.group(2) == null ? "" : c.group(2), k -> new ArrayList<>()).add(inside);
            } else if (m.find()) {
                method = inside + "." + (m.group(1).equals(inside) ? "<init>" : m.group(1));
                calls.putIfAbsent(method, new TreeSet<>());
            } else if (call.find()) {
                calls.get(method).add((call.group(1) == null ? inside : call.group(1)) + "." + call.group(2));
            }
        }
    }

    /** A call of a method may be one of any class below that has it, or of the class above that has it. */
    private void addHeirs() {
        for (Set<String> called : calls.values()) {
            Set<String> all = new TreeSet<>();
            for (String name : called) {
                int dot = name.lastIndexOf('.');
                addAll(all, name.substring(0, dot), name.substring(dot));
            }
            called.clear();
            called.addAll(all);
        }
    }

    private void addAll(Set<String> all, String owner, String method) {
        if (calls.containsKey(owner + method)) {
            all.add(owner + method);
        } else {
            heirs.forEach((above, below) -> {
                if (below.contains(owner) && calls.containsKey(above + method)) {
                    all.add(above + method);
                }
            });
        }
        if (!method.equals(".<init>")) {
            for (String heir : heirs.getOrDefault(owner, List.of())) {
                if (calls.containsKey(heir + method)) {
                    all.add(heir + method);
                }
            }
        }
    }

    /** How many methods stand open at once at most, from this one on; one that calls itself counts once. */
    private int depthOf(String method) {
        Integer depth = known.get(method);
        if (depth != null) {
            return depth;
        }
        if (!open.add(method)) {
            again.add(method);
            return 0;
        }
        int deepest = 0;
        for (String called : calls.get(method)) {
            deepest = Math.max(deepest, depthOf(called));
        }
        open.remove(method);
        known.put(method, deepest + 1);
        return deepest + 1;
    }
}
