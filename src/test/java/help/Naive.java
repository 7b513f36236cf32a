import java.util.ArrayList;
import java.util.Arrays;
import java.util.HashMap;
import java.util.HashSet;
import java.util.LinkedHashMap;
import java.util.List;
import java.util.Map;
import java.util.NoSuchElementException;
import java.util.Set;
import java.util.TreeMap;
import java.util.TreeSet;

/** The document said again in the most literal way, slow and with the whole library, to compare TabledGoals with. */
final class Naive {
    static final class Fault extends RuntimeException {
        final int kind;
        final int place;

        Fault(int kind, int place) {
            this.kind = kind;
            this.place = place;
        }
    }

    record Lit(int pred, List<Integer> terms, boolean not) {
    }

    record Clause(Lit head, List<Lit> body, int variables) {
    }

    record Atom(int pred, List<Integer> terms) {
    }

    record Goal(int pred, List<Integer> terms) {
    }

    static final class Tab {
        Goal goal;
        boolean fresh;
        TreeMap<List<Integer>, Integer> answers = new TreeMap<>(Naive::compareRows);
        LinkedHashMap<Goal, Integer> calls = new LinkedHashMap<>();
        int from;
        int hits;
        int made;
    }

    static int compareRows(List<Integer> a, List<Integer> b) {
        for (int i = 0; i < Math.min(a.size(), b.size()); i++) {
            int c = Integer.compare(a.get(i), b.get(i));
            if (c != 0) {
                return c;
            }
        }
        return Integer.compare(a.size(), b.size());
    }

    private final StringBuilder tape = new StringBuilder();
    private List<String> preds = new ArrayList<>();
    private List<Integer> arity = new ArrayList<>();
    private List<String> consts = new ArrayList<>();
    private List<Clause> clauses = new ArrayList<>();
    private int faultPlace = -1;
    private final int[] refused = new int[3];
    private final List<Tab> tabs = new ArrayList<>();
    private int madeAll;
    private int hitsAll;
    private List<Integer> completedList = new ArrayList<>();

    // ---------------------------------------------------------------- tape and text

    int feed(int... numbers) {
        if (tape.length() + 20 > 400) {
            return -1;
        }
        for (int n : numbers) {
            for (int k = 3; k >= 0; k--) {
                tape.append((char) ((n >>> (8 * k)) & 0xFF));
            }
        }
        return tape.length();
    }

    int text(int n) {
        if (n < 0 || n > tape.length()) {
            throw illegal();
        }
        String s = tape.substring(0, n);
        tape.setLength(0);
        Parser p = new Parser(s);
        try {
            p.parse();
        } catch (Fault f) {
            faultPlace = f.place;
            return f.kind - 10;
        }
        faultPlace = -1;
        preds = p.preds;
        arity = p.arity;
        consts = p.consts;
        clauses = p.clauses;
        tabs.clear();
        madeAll = 0;
        hitsAll = 0;
        completedList = new ArrayList<>();
        forget();
        return clauses.size();
    }

    int fault() {
        return faultPlace;
    }

    static final class Parser {
        final String s;
        int pos;
        final List<String> preds = new ArrayList<>();
        final List<Integer> arity = new ArrayList<>();
        final List<String> consts = new ArrayList<>();
        final List<Clause> clauses = new ArrayList<>();
        String vars;
        Set<Character> plain;
        int[] headAt;

        Parser(String s) {
            this.s = s;
        }

        char look() {
            while (pos < s.length() && s.charAt(pos) == ' ') {
                pos++;
            }
            return pos < s.length() ? s.charAt(pos) : 0;
        }

        String word() {
            int e = pos;
            while (e < s.length() && s.charAt(e) >= 'a' && s.charAt(e) <= 'z') {
                e++;
            }
            return s.substring(pos, e);
        }

        void expect(char c) {
            if (look() != c || pos >= s.length()) {
                throw new Fault(1, pos);
            }
            pos++;
        }

        void parse() {
            look();
            while (pos < s.length()) {
                if (word().isEmpty()) {
                    throw new Fault(1, pos);
                }
                if (clauses.size() == 60) {
                    throw new Fault(3, pos);
                }
                clause();
                look();
            }
        }

        void clause() {
            vars = "";
            plain = new HashSet<>();
            headAt = new int[2];
            Lit head = atom(false, true);
            List<Lit> body = new ArrayList<>();
            look();
            if (s.startsWith(":-", pos)) {
                pos += 2;
                do {
                    look();
                    if (word().isEmpty()) {
                        throw new Fault(1, pos);
                    }
                    if (body.size() == 6) {
                        throw new Fault(3, pos);
                    }
                    boolean not = word().equals("not");
                    if (not) {
                        pos += 3;
                        look();
                    }
                    body.add(atom(not, false));
                    look();
                } while (s.startsWith(",", pos) && ++pos > 0);
            }
            expect('.');
            for (int i = 0; i < head.terms.size(); i++) {
                int t = head.terms.get(i);
                if (t < 0 && !plain.contains(vars.charAt(-1 - t))) {
                    throw new Fault(5, headAt[i]);
                }
            }
            clauses.add(new Clause(head, body, vars.length()));
        }

        String name() {
            String w = word();
            if (w.isEmpty() || w.equals("not")) {
                throw new Fault(1, pos);
            }
            if (w.length() > 8) {
                throw new Fault(2, pos);
            }
            return w;
        }

        Lit atom(boolean not, boolean head) {
            int start = pos;
            String n = name();
            int p = preds.indexOf(n);
            boolean isNew = p < 0;
            if (isNew) {
                if (preds.size() == 10) {
                    throw new Fault(3, pos);
                }
                p = preds.size();
                preds.add(n);
                arity.add(0);
            }
            pos += n.length();
            List<Integer> terms = new ArrayList<>();
            look();
            if (s.startsWith("(", pos)) {
                pos++;
                terms.add(term(not, head, 0));
                look();
                if (s.startsWith(",", pos)) {
                    pos++;
                    terms.add(term(not, head, 1));
                }
                expect(')');
            }
            if (isNew) {
                arity.set(p, terms.size());
            } else if (arity.get(p) != terms.size()) {
                throw new Fault(4, start);
            }
            return new Lit(p, terms, not);
        }

        int term(boolean not, boolean head, int k) {
            char c = look();
            if (head) {
                headAt[k] = pos;
            }
            if (c >= 'A' && c <= 'Z') {
                if (vars.indexOf(c) < 0) {
                    if (vars.length() == 3) {
                        throw new Fault(3, pos);
                    }
                    vars += c;
                }
                if (not && !plain.contains(c)) {
                    throw new Fault(5, pos);
                }
                if (!not && !head) {
                    plain.add(c);
                }
                pos++;
                return -1 - vars.indexOf(c);
            }
            String n = name();
            int k1 = consts.indexOf(n);
            if (k1 < 0) {
                if (consts.size() == 8) {
                    throw new Fault(3, pos);
                }
                k1 = consts.size();
                consts.add(n);
            }
            pos += n.length();
            return k1;
        }
    }

    // ---------------------------------------------------------------- the model

    private boolean modelKnown;
    private int stages;
    private List<Set<Atom>> trueSets;
    private List<Set<Atom>> possibleSets;

    private void forget() {
        modelKnown = false;
    }

    private static Atom ground(Lit l, int[] env) {
        List<Integer> terms = new ArrayList<>();
        for (int t : l.terms) {
            terms.add(t < 0 ? env[-1 - t] : t);
        }
        return new Atom(l.pred, terms);
    }

    /** All ways to tell the variables, by constants of variables in order. */
    private List<int[]> ways(int variables) {
        List<int[]> rows = new ArrayList<>();
        rows.add(new int[0]);
        for (int v = 0; v < variables; v++) {
            List<int[]> longer = new ArrayList<>();
            for (int[] row : rows) {
                for (int c = 0; c < consts.size(); c++) {
                    int[] r = Arrays.copyOf(row, v + 1);
                    r[v] = c;
                    longer.add(r);
                }
            }
            rows = longer;
        }
        return rows;
    }

    private record Instance(Atom head, List<Atom> plain, List<Atom> not) {
    }

    private List<Instance> instances() {
        List<Instance> all = new ArrayList<>();
        for (Clause c : clauses) {
            for (int[] env : ways(c.variables)) {
                List<Atom> plain = new ArrayList<>();
                List<Atom> not = new ArrayList<>();
                for (Lit l : c.body) {
                    (l.not ? not : plain).add(ground(l, env));
                }
                all.add(new Instance(ground(c.head, env), plain, not));
            }
        }
        return all;
    }

    private static Set<Atom> follows(List<Instance> all, Set<Atom> k) {
        Set<Atom> out = new HashSet<>();
        boolean more = true;
        while (more) {
            more = false;
            for (Instance i : all) {
                if (!out.contains(i.head) && out.containsAll(i.plain) && i.not.stream().noneMatch(k::contains)) {
                    out.add(i.head);
                    more = true;
                }
            }
        }
        return out;
    }

    private void settle() {
        if (modelKnown) {
            return;
        }
        List<Instance> all = instances();
        trueSets = new ArrayList<>();
        possibleSets = new ArrayList<>();
        trueSets.add(new HashSet<>());
        for (int k = 0;; k++) {
            possibleSets.add(follows(all, trueSets.get(k)));
            Set<Atom> next = follows(all, possibleSets.get(k));
            if (next.equals(trueSets.get(k))) {
                stages = k;
                break;
            }
            trueSets.add(next);
        }
        modelKnown = true;
    }

    private int val(Atom a) {
        settle();
        return trueSets.get(stages).contains(a) ? 2 : possibleSets.get(stages).contains(a) ? 1 : 0;
    }

    private int val(Lit l, int[] env) {
        int v = val(ground(l, env));
        return l.not ? 2 - v : v;
    }

    // ---------------------------------------------------------------- refusals

    private NoSuchElementException missing() {
        refused[0]++;
        return new NoSuchElementException();
    }

    private IllegalArgumentException illegal() {
        refused[1]++;
        return new IllegalArgumentException();
    }

    private Atom atomOf(int p, int one, int two) {
        if (p < 0 || p >= preds.size()) {
            throw missing();
        }
        int n = arity.get(p);
        int[] t = {one, two};
        for (int i = 0; i < n; i++) {
            if (t[i] < 0 || t[i] >= consts.size()) {
                throw missing();
            }
        }
        for (int i = n; i < 2; i++) {
            if (t[i] != 0) {
                throw illegal();
            }
        }
        List<Integer> terms = new ArrayList<>();
        for (int i = 0; i < n; i++) {
            terms.add(t[i]);
        }
        return new Atom(p, terms);
    }

    private Goal goalOf(int p, int one, int two) {
        if (p < 0 || p >= preds.size()) {
            throw missing();
        }
        int n = arity.get(p);
        int[] t = {one, two};
        for (int i = 0; i < n; i++) {
            if (t[i] >= consts.size()) {
                throw missing();
            }
        }
        for (int i = 0; i < 2; i++) {
            if (i >= n ? t[i] != 0 : t[i] < -2) {
                throw illegal();
            }
        }
        List<Integer> terms = new ArrayList<>();
        for (int i = 0; i < n; i++) {
            terms.add(t[i]);
        }
        return variant(p, terms);
    }

    /** Variables told anew as -1, -2 in the order in which they come. */
    private static Goal variant(int p, List<Integer> terms) {
        List<Integer> names = new ArrayList<>();
        List<Integer> out = new ArrayList<>();
        for (int t : terms) {
            if (t >= 0) {
                out.add(t);
            } else {
                if (!names.contains(t)) {
                    names.add(t);
                }
                out.add(-1 - names.indexOf(t));
            }
        }
        return new Goal(p, out);
    }

    // ---------------------------------------------------------------- calls

    /** What a variable was told to be, followed to the end; variables of the goal are -101, -102. */
    private static int walk(int t, Map<Integer, Integer> env) {
        while (t < 0 && env.containsKey(t)) {
            t = env.get(t);
        }
        return t;
    }

    private static boolean unify(int a, int b, Map<Integer, Integer> env) {
        int x = walk(a, env);
        int y = walk(b, env);
        if (x == y) {
            return true;
        }
        if (x < 0) {
            env.put(x, y);
            return true;
        }
        if (y < 0) {
            env.put(y, x);
            return true;
        }
        return false;
    }

    private static Map<Integer, Integer> unify(List<Integer> a, List<Integer> b, Map<Integer, Integer> env) {
        Map<Integer, Integer> out = new HashMap<>(env);
        for (int i = 0; i < a.size(); i++) {
            if (!unify(a.get(i), b.get(i), out)) {
                return null;
            }
        }
        return out;
    }

    private LinkedHashMap<Goal, Integer> callsOf(Goal g) {
        settle();
        LinkedHashMap<Goal, Integer> out = new LinkedHashMap<>();
        List<Integer> apart = new ArrayList<>();
        for (int t : g.terms) {
            apart.add(t < 0 ? t - 100 : t);
        }
        for (Clause c : clauses) {
            if (c.head.pred == g.pred) {
                Map<Integer, Integer> env = unify(apart, c.head.terms, new HashMap<>());
                if (env != null) {
                    callsBehind(c, 0, env, out);
                }
            }
        }
        return out;
    }

    private void callsBehind(Clause c, int i, Map<Integer, Integer> env, LinkedHashMap<Goal, Integer> out) {
        if (i == c.body.size()) {
            return;
        }
        Lit l = c.body.get(i);
        List<Integer> now = new ArrayList<>();
        for (int t : l.terms) {
            now.add(walk(t, env));
        }
        out.merge(variant(l.pred, now), l.not ? 2 : 1, (a, b) -> a | b);
        if (l.not) {
            if (val(new Atom(l.pred, now)) != 2) {
                callsBehind(c, i + 1, env, out);
            }
            return;
        }
        for (int[] row : ways(now.size())) {
            List<Integer> terms = new ArrayList<>();
            for (int t : row) {
                terms.add(t);
            }
            Map<Integer, Integer> more = unify(now, terms, env);
            if (more != null && val(new Atom(l.pred, terms)) != 0) {
                callsBehind(c, i + 1, more, out);
            }
        }
    }

    private static boolean like(Goal g, Atom a) {
        return g.pred == a.pred && unify(g.terms, a.terms, new HashMap<>()) != null;
    }

    // ---------------------------------------------------------------- tables

    private int numberOf(Goal g) {
        for (int t = 0; t < tabs.size(); t++) {
            if (tabs.get(t).goal.equals(g)) {
                return t;
            }
        }
        return -1;
    }

    private Tab tab(int t) {
        if (t < 0 || t >= tabs.size()) {
            throw missing();
        }
        return tabs.get(t);
    }

    int ask(int p, int one, int two) {
        Goal g = goalOf(p, one, two);
        List<Integer> left = new ArrayList<>();
        goInto(g, -1, left);
        completedList = new ArrayList<>();
        Map<Integer, Integer> lastLeft = new HashMap<>();
        for (int i = 0; i < left.size(); i++) {
            lastLeft.put(leader(left.get(i)), i);
        }
        for (int i = 0; i < left.size(); i++) {
            for (int lead : lastLeft.keySet()) {
                if (lastLeft.get(lead) == i) {
                    for (int t : new TreeSet<>(left)) {
                        if (leader(t) == lead) {
                            completedList.add(t);
                        }
                    }
                }
            }
        }
        return numberOf(g);
    }

    private void goInto(Goal g, int from, List<Integer> left) {
        int n = numberOf(g);
        if (n >= 0 && tabs.get(n).fresh) {
            tabs.get(n).hits++;
            hitsAll++;
            return;
        }
        if (n < 0) {
            n = tabs.size();
            Tab made = new Tab();
            made.goal = g;
            made.from = from;
            tabs.add(made);
        }
        Tab t = tabs.get(n);
        t.fresh = true;
        t.made++;
        madeAll++;
        t.calls = callsOf(g);
        t.answers.clear();
        for (int[] row : ways(g.terms.size())) {
            List<Integer> terms = new ArrayList<>();
            for (int x : row) {
                terms.add(x);
            }
            Atom a = new Atom(g.pred, terms);
            if (like(g, a) && val(a) != 0) {
                t.answers.put(terms, val(a));
            }
        }
        for (Goal called : new ArrayList<>(t.calls.keySet())) {
            goInto(called, n, left);
        }
        left.add(n);
    }

    private Set<Integer> reachable(int t) {
        Set<Integer> out = new HashSet<>();
        List<Integer> todo = new ArrayList<>(List.of(t));
        while (!todo.isEmpty()) {
            int x = todo.remove(todo.size() - 1);
            if (out.add(x)) {
                for (Goal g : tabs.get(x).calls.keySet()) {
                    todo.add(numberOf(g));
                }
            }
        }
        return out;
    }

    private int leader(int t) {
        for (int u : new TreeSet<>(reachable(t))) {
            if (reachable(u).contains(t)) {
                return u;
            }
        }
        return t;
    }

    private int spoil(Atom a) {
        forget();
        int count = 0;
        boolean more = true;
        Set<Integer> stale = new HashSet<>();
        while (more) {
            more = false;
            for (int t = 0; t < tabs.size(); t++) {
                Tab x = tabs.get(t);
                boolean hit = like(x.goal, a) || x.calls.keySet().stream().anyMatch(g -> stale.contains(numberOf(g)));
                if (hit && stale.add(t)) {
                    more = true;
                    count += x.fresh ? 1 : 0;
                    x.fresh = false;
                }
            }
        }
        return count;
    }

    private int factAt(Atom a) {
        for (int c = 0; c < clauses.size(); c++) {
            Clause x = clauses.get(c);
            if (x.body.isEmpty() && x.head.pred == a.pred && x.head.terms.equals(a.terms)) {
                return c;
            }
        }
        return -1;
    }

    int assume(int p, int one, int two) {
        Atom a = atomOf(p, one, two);
        if (factAt(a) >= 0) {
            return -1;
        }
        if (clauses.size() >= 60) {
            refused[2]++;
            throw new IllegalStateException();
        }
        clauses.add(new Clause(new Lit(a.pred, a.terms, false), new ArrayList<>(), 0));
        return spoil(a);
    }

    int retract(int p, int one, int two) {
        Atom a = atomOf(p, one, two);
        int at = factAt(a);
        if (at < 0) {
            return -1;
        }
        clauses.remove(at);
        return spoil(a);
    }

    int abolish() {
        int n = tabs.size();
        tabs.clear();
        completedList = new ArrayList<>();
        return n;
    }

    // ---------------------------------------------------------------- what is told

    private int count(int pred, int value) {
        int n = 0;
        for (int p = 0; p < preds.size(); p++) {
            for (int[] row : ways(arity.get(p))) {
                List<Integer> terms = new ArrayList<>();
                for (int x : row) {
                    terms.add(x);
                }
                n += (pred < 0 || pred == p) && val(new Atom(p, terms)) == value ? 1 : 0;
            }
        }
        return n;
    }

    int told(int what) {
        switch (what) {
            case 0: return preds.size();
            case 1: return consts.size();
            case 2: return clauses.size();
            case 3: return (int) clauses.stream().filter(c -> c.body.isEmpty()).count();
            case 4: return tabs.size();
            case 5: return (int) tabs.stream().filter(t -> t.fresh).count();
            case 6: return madeAll;
            case 7: return hitsAll;
            case 8: settle(); return stages;
            case 9: return count(-1, 2);
            case 10: return count(-1, 1);
            case 11: return tape.length();
            default: throw illegal();
        }
    }

    /** The most literals by not on a way through needed predicates; NONE if a circle holds one. */
    private int stratum(int p) {
        int n = preds.size();
        boolean[][] needs = new boolean[n][n];
        for (Clause c : clauses) {
            for (Lit l : c.body) {
                needs[c.head.pred][l.pred] = true;
            }
        }
        for (int k = 0; k < n; k++) {
            for (int i = 0; i < n; i++) {
                for (int j = 0; j < n; j++) {
                    needs[i][j] |= needs[i][k] && needs[k][j];
                }
            }
        }
        for (Clause c : clauses) {
            for (Lit l : c.body) {
                int h = c.head.pred;
                if (l.not && (p == h || needs[p][h]) && (l.pred == h || needs[l.pred][h])) {
                    return -1;
                }
            }
        }
        int most = 0;
        for (Clause c : clauses) {
            for (Lit l : c.body) {
                int h = c.head.pred;
                if (l.not && (p == h || needs[p][h])) {
                    most = Math.max(most, 1 + stratum(l.pred));
                }
            }
        }
        return most;
    }

    int predicate(int p, int what) {
        if (p < 0 || p >= preds.size()) {
            throw missing();
        }
        switch (what) {
            case 0: return arity.get(p);
            case 1: return (int) clauses.stream().filter(c -> c.head.pred == p).count();
            case 2: return stratum(p);
            case 3: return preds.get(p).length();
            case 4: return count(p, 2);
            case 5: return count(p, 1);
            default: throw illegal();
        }
    }

    int nameAt(int kind, int k, int i) {
        if (kind != 0 && kind != 1) {
            throw illegal();
        }
        List<String> names = kind == 0 ? preds : consts;
        if (k < 0 || k >= names.size() || i < 0 || i >= names.get(k).length()) {
            throw missing();
        }
        return names.get(k).charAt(i);
    }

    int clause(int c, int l, int what) {
        if (c < 0 || c >= clauses.size() || l < -1 || l >= clauses.get(c).body.size()) {
            throw missing();
        }
        Lit x = l == -1 ? clauses.get(c).head : clauses.get(c).body.get(l);
        switch (what) {
            case 0: return x.pred;
            case 1: return x.terms.size() > 0 ? x.terms.get(0) : 0;
            case 2: return x.terms.size() > 1 ? x.terms.get(1) : 0;
            case 3: return x.not ? 1 : 0;
            default: throw illegal();
        }
    }

    int literals(int c) {
        if (c < 0 || c >= clauses.size()) {
            throw missing();
        }
        return clauses.get(c).body.size();
    }

    int value(int p, int one, int two) {
        return val(atomOf(p, one, two));
    }

    int stage(int p, int one, int two) {
        Atom a = atomOf(p, one, two);
        settle();
        for (int k = 0; k <= stages; k++) {
            if (trueSets.get(k).contains(a) || !possibleSets.get(k).contains(a)) {
                return k;
            }
        }
        return -1;
    }

    int find(int p, int one, int two) {
        return numberOf(goalOf(p, one, two));
    }

    private static int nodes(Tab t) {
        Set<List<Integer>> nodes = new HashSet<>();
        for (List<Integer> terms : t.answers.keySet()) {
            List<Integer> row = new ArrayList<>();
            for (int v = -1; v >= -2; v--) {
                int at = t.goal.terms.indexOf(v);
                if (at >= 0) {
                    row.add(terms.get(at));
                }
            }
            for (int n = 0; n <= row.size(); n++) {
                nodes.add(new ArrayList<>(row.subList(0, n)));
            }
        }
        return nodes.size();
    }

    int table(int t, int what) {
        Tab x = tab(t);
        switch (what) {
            case 0: return x.goal.pred;
            case 1: return x.goal.terms.size() > 0 ? x.goal.terms.get(0) : 0;
            case 2: return x.goal.terms.size() > 1 ? x.goal.terms.get(1) : 0;
            case 3: return x.fresh ? 1 : 0;
            case 4: return (int) x.answers.values().stream().filter(v -> v == 2).count();
            case 5: return (int) x.answers.values().stream().filter(v -> v == 1).count();
            case 6: return nodes(x);
            case 7: return leader(t);
            case 8: return x.calls.size();
            case 9: return x.from;
            case 10: return x.hits;
            case 11: return x.made;
            case 12: return (int) tabs.stream().filter(u -> u.calls.containsKey(x.goal)).count();
            default: throw illegal();
        }
    }

    int calls(int t, int i, int what) {
        Tab x = tab(t);
        if (i < 0 || i >= x.calls.size()) {
            throw missing();
        }
        Goal g = new ArrayList<>(x.calls.keySet()).get(i);
        switch (what) {
            case 0: return numberOf(g);
            case 1: return x.calls.get(g);
            default: throw illegal();
        }
    }

    int answer(int t, int i, int what) {
        Tab x = tab(t);
        if (i < 0 || i >= x.answers.size()) {
            throw missing();
        }
        List<Integer> row = new ArrayList<>(x.answers.keySet()).get(i);
        switch (what) {
            case 0: return row.size() > 0 ? row.get(0) : 0;
            case 1: return row.size() > 1 ? row.get(1) : 0;
            case 2: return x.answers.get(row);
            default: throw illegal();
        }
    }

    int completed(int k) {
        return k < 0 || k >= completedList.size() ? -1 : completedList.get(k);
    }

    int condition(int p, int one, int two, int j, int l) {
        Atom a = atomOf(p, one, two);
        if (val(a) != 1) {
            throw missing();
        }
        List<Integer> ofClause = new ArrayList<>();
        List<List<Integer>> delayed = new ArrayList<>();
        for (int c = 0; c < clauses.size(); c++) {
            Clause x = clauses.get(c);
            for (int[] env : ways(x.variables)) {
                if (ground(x.head, env).equals(a) && x.body.stream().allMatch(b -> val(b, env) != 0)) {
                    ofClause.add(c);
                    List<Integer> places = new ArrayList<>();
                    for (int i = 0; i < x.body.size(); i++) {
                        if (val(x.body.get(i), env) == 1) {
                            places.add(i);
                        }
                    }
                    delayed.add(places);
                }
            }
        }
        if (j == -1) {
            return ofClause.size();
        }
        if (j < 0 || j >= ofClause.size()) {
            throw missing();
        }
        if (l == -1) {
            return delayed.get(j).size();
        }
        if (l == -2) {
            return ofClause.get(j);
        }
        if (l < 0 || l >= delayed.get(j).size()) {
            throw missing();
        }
        return delayed.get(j).get(l);
    }

    int reach(int p, int one, int two) {
        Set<Goal> out = new HashSet<>();
        List<Goal> todo = new ArrayList<>(List.of(goalOf(p, one, two)));
        while (!todo.isEmpty()) {
            Goal g = todo.remove(todo.size() - 1);
            if (out.add(g)) {
                todo.addAll(callsOf(g).keySet());
            }
        }
        return out.size();
    }

    long print() {
        long h = 0;
        for (Tab t : tabs) {
            h = h * 31 + t.goal.pred;
            h = h * 31 + t.answers.values().stream().filter(v -> v == 2).count();
            h = h * 31 + t.answers.values().stream().filter(v -> v == 1).count();
        }
        return h;
    }

    int status(int what) {
        return what < 0 || what > 2 ? -1 : refused[what];
    }
}
