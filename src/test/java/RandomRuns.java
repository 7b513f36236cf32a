import java.util.ArrayList;
import java.util.List;
import java.util.Random;

/** Random runs of calls, on TabledGoals and on the literal reading of the document in help/Naive. */
public final class RandomRuns {
    private final Random random;
    private final TabledGoals x = new TabledGoals();
    private final Naive y = new Naive();
    private final List<String> run = new ArrayList<>();
    private boolean right = true;

    private RandomRuns(long seed) {
        random = new Random(seed);
    }

    public static void main(String[] args) {
        int runs = args.length > 1 ? Integer.parseInt(args[1]) : 1500;
        int first = args.length > 2 ? Integer.parseInt(args[2]) : 0;
        for (int seed = first; seed < first + runs && Check.allRight(); seed++) {
            new RandomRuns(seed).go();
        }
        Check.end();
    }

    private void go() {
        int calls = 20 + random.nextInt(200);
        tellText();
        for (int i = 0; i < calls && right; i++) {
            anyCall();
        }
        lookAtAll();
        if (!right) {
            int from = Math.max(0, run.size() - 60);
            for (String line : run.subList(from, run.size())) {
                System.out.println("  " + line);
            }
        }
    }

    private void same(String what, Check.Call mine, Check.Call due) {
        String want = Check.outcome(due);
        run.add(what + " due " + want);
        Check.due(what, mine, want);
        right = Check.allRight();
    }

    private int below(int n) {
        return random.nextInt(n);
    }

    // ------------------------------------------------------------ texts

    private void tellText() {
        String text = randomText();
        if (below(5) == 0) {
            text = spoilt(text);
        }
        if (text.length() > 400) {
            text = text.substring(0, 400);
        }
        run.add("text: " + text);
        for (int from = 0; from < text.length(); from += 20) {
            int[] n = Check.words(text, from);
            same("feed", () -> x.feed(n[0], n[1], n[2], n[3], n[4]), () -> y.feed(n));
        }
        int n = text.length();
        same("text(" + n + ")", () -> x.text(n), () -> y.text(n));
        same("fault()", x::fault, y::fault);
    }

    private String spoilt(String text) {
        StringBuilder b = new StringBuilder(text);
        int changes = 1 + below(3);
        String signs = "  ,.():-nopqXYZWnot\0~\u00ff";
        for (int i = 0; i < changes && b.length() > 0; i++) {
            int at = below(b.length());
            switch (below(4)) {
                case 0: b.deleteCharAt(at); break;
                case 1: b.setCharAt(at, signs.charAt(below(signs.length()))); break;
                case 2: b.insert(at, signs.charAt(below(signs.length()))); break;
                default: b.insert(at, below(2) == 0 ? "not " : "abcdefghi"); break;
            }
        }
        return b.toString();
    }

    private int preds;
    private int[] arity;
    private int consts;
    private boolean blanks;

    private String randomText() {
        preds = 1 + below(below(4) == 0 ? 11 : 5);
        consts = 1 + below(below(4) == 0 ? 9 : 4);
        arity = new int[preds];
        blanks = below(4) == 0;
        for (int p = 0; p < preds; p++) {
            arity[p] = below(3);
        }
        StringBuilder b = new StringBuilder();
        int rules = 1 + below(below(6) == 0 ? 20 : 6);
        int facts = below(below(6) == 0 ? 70 : 10);
        while (rules + facts > 0 && b.length() < 340) {
            if (below(rules + facts) < rules) {
                rule(b);
                rules--;
            } else {
                atom(b, below(preds), null, false);
                b.append('.');
                facts--;
            }
        }
        return b.toString();
    }

    private void blank(StringBuilder b) {
        if (blanks && below(3) == 0) {
            b.append("  ", 0, 1 + below(2));
        }
    }

    private void atom(StringBuilder b, int p, String vars, boolean mostlyVars) {
        blank(b);
        b.append((char) ('p' + p));
        if (arity[p] > 0) {
            blank(b);
            b.append('(');
            for (int i = 0; i < arity[p]; i++) {
                b.append(i > 0 ? "," : "");
                blank(b);
                if (vars != null && !vars.isEmpty() && (below(4) > 0 || mostlyVars && below(3) > 0)) {
                    b.append(vars.charAt(below(vars.length())));
                } else {
                    b.append((char) ('a' + below(consts)));
                }
            }
            b.append(')');
        }
    }

    private void rule(StringBuilder b) {
        int size = 1 + below(below(5) == 0 ? 6 : 3);
        StringBuilder body = new StringBuilder();
        String told = "";
        String all = "XYZ".substring(0, 1 + below(3));
        for (int i = 0; i < size; i++) {
            if (i > 0) {
                body.append(',');
            }
            int p = below(preds);
            if (below(3) == 0) {
                blank(body);
                body.append("not ");
                atom(body, p, below(60) == 0 ? all : told, true);
            } else {
                StringBuilder one = new StringBuilder();
                atom(one, p, all, true);
                for (char c : all.toCharArray()) {
                    if (one.indexOf(String.valueOf(c)) >= 0 && told.indexOf(c) < 0) {
                        told += c;
                    }
                }
                body.append(one);
            }
        }
        atom(b, below(preds), below(60) == 0 ? all : told, true);
        blank(b);
        b.append(":-").append(body);
        blank(b);
        b.append('.');
    }

    // ------------------------------------------------------------ calls

    /** Mostly a number that there is, now and then one beside. */
    private int near(int count) {
        if (below(25) == 0) {
            int[] odd = {-1, -2, -3, count, count + 1, Integer.MAX_VALUE, Integer.MIN_VALUE, 8, 10, 60};
            return odd[below(odd.length)];
        }
        return count <= 0 ? 0 : below(count);
    }

    private int predNow() {
        return near(y.told(0));
    }

    private int termOf(int p, int place, boolean variables) {
        int n = p >= 0 && p < y.told(0) ? y.predicate(p, 0) : 2;
        if (place >= n) {
            return below(30) == 0 ? near(3) : 0;
        }
        if (variables && below(3) == 0) {
            return -1 - below(2);
        }
        return near(y.told(1));
    }

    private void anyCall() {
        int kind = below(100);
        if (kind < 2) {
            tellText();
        } else if (kind < 4) {
            same("abolish()", x::abolish, y::abolish);
        } else if (kind < 18) {
            changeFact();
        } else if (kind < 36) {
            goalCall();
        } else if (kind < 55) {
            tableCall();
        } else if (kind < 68) {
            atomCall();
        } else if (kind < 72) {
            tapeCall();
        } else {
            tellCall();
        }
    }

    private void changeFact() {
        int p = predNow();
        int one = termOf(p, 0, false);
        int two = termOf(p, 1, false);
        String args = "(" + p + ", " + one + ", " + two + ")";
        if (below(2) == 0) {
            same("assume" + args, () -> x.assume(p, one, two), () -> y.assume(p, one, two));
        } else {
            same("retract" + args, () -> x.retract(p, one, two), () -> y.retract(p, one, two));
        }
    }

    private void goalCall() {
        int p = predNow();
        int one = termOf(p, 0, true);
        int two = termOf(p, 1, true);
        String args = "(" + p + ", " + one + ", " + two + ")";
        switch (below(4)) {
            case 0: same("find" + args, () -> x.find(p, one, two), () -> y.find(p, one, two)); break;
            case 1: same("reach" + args, () -> x.reach(p, one, two), () -> y.reach(p, one, two)); break;
            default:
                same("ask" + args, () -> x.ask(p, one, two), () -> y.ask(p, one, two));
                for (int k = -1; k < 12; k++) {
                    int i = k;
                    same("completed(" + i + ")", () -> x.completed(i), () -> y.completed(i));
                }
                if (below(10) == 0) {
                    lookAtAll();
                }
                break;
        }
    }

    private void tableCall() {
        int t = near(y.told(4));
        int i = near(4);
        switch (below(4)) {
            case 0: {
                int what = near(3);
                same("answer(" + t + ", " + i + ", " + what + ")", () -> x.answer(t, i, what), () -> y.answer(t, i, what));
                break;
            }
            case 1: {
                int what = near(2);
                same("calls(" + t + ", " + i + ", " + what + ")", () -> x.calls(t, i, what), () -> y.calls(t, i, what));
                break;
            }
            default: {
                int what = near(13);
                same("table(" + t + ", " + what + ")", () -> x.table(t, what), () -> y.table(t, what));
                break;
            }
        }
    }

    private void atomCall() {
        int p = predNow();
        int one = termOf(p, 0, false);
        int two = termOf(p, 1, false);
        String args = "(" + p + ", " + one + ", " + two;
        switch (below(4)) {
            case 0: same("value" + args, () -> x.value(p, one, two), () -> y.value(p, one, two)); break;
            case 1: same("stage" + args, () -> x.stage(p, one, two), () -> y.stage(p, one, two)); break;
            default: {
                int j = below(3) - 1;
                int l = below(5) - 2;
                int oddL = below(20) == 0 ? near(3) : l;
                same("condition" + args + ", " + j + ", " + oddL, () -> x.condition(p, one, two, j, oddL),
                        () -> y.condition(p, one, two, j, oddL));
                break;
            }
        }
    }

    // ------------------------------------------------------------ all at the end of a run

    private void lookAtAll() {
        for (int t = 0; t < y.told(4) && right; t++) {
            lookAtTable(t);
        }
        for (int k = 0; k <= y.told(4) && right; k++) {
            int i = k;
            same("completed(" + i + ")", () -> x.completed(i), () -> y.completed(i));
        }
        for (int p = 0; p < y.told(0) && right; p++) {
            int terms = y.predicate(p, 0);
            for (int one = 0; one < (terms > 0 ? y.told(1) : 1); one++) {
                for (int two = 0; two < (terms > 1 ? y.told(1) : 1) && right; two++) {
                    lookAtAtom(p, one, two);
                }
            }
        }
        same("print()", x::print, y::print);
    }

    private void lookAtTable(int t) {
        for (int w = 0; w <= 12; w++) {
            int what = w;
            same("table(" + t + ", " + what + ")", () -> x.table(t, what), () -> y.table(t, what));
        }
        for (int i = 0; i <= y.table(t, 8); i++) {
            int call = i;
            same("calls(" + t + ", " + call + ", 0)", () -> x.calls(t, call, 0), () -> y.calls(t, call, 0));
            same("calls(" + t + ", " + call + ", 1)", () -> x.calls(t, call, 1), () -> y.calls(t, call, 1));
        }
        for (int i = 0; i <= y.table(t, 4) + y.table(t, 5); i++) {
            for (int w = 0; w <= 2; w++) {
                int answer = i;
                int what = w;
                same("answer(" + t + ", " + answer + ", " + what + ")", () -> x.answer(t, answer, what), () -> y.answer(t, answer, what));
            }
        }
    }

    private void lookAtAtom(int p, int one, int two) {
        String args = "(" + p + ", " + one + ", " + two;
        same("value" + args + ")", () -> x.value(p, one, two), () -> y.value(p, one, two));
        same("stage" + args + ")", () -> x.stage(p, one, two), () -> y.stage(p, one, two));
        if (y.value(p, one, two) != 1) {
            return;
        }
        int conditions = y.condition(p, one, two, -1, 0);
        for (int i = -1; i <= conditions && i < 40; i++) {
            for (int k = -2; k < 4; k++) {
                int j = i;
                int l = k;
                same("condition" + args + ", " + j + ", " + l + ")", () -> x.condition(p, one, two, j, l),
                        () -> y.condition(p, one, two, j, l));
            }
        }
    }

    private void tapeCall() {
        int[] n = {random.nextInt(), random.nextInt(), 0x20202020, 0, 0x702e702e};
        switch (below(3)) {
            case 0: {
                int k = near(y.told(11));
                same("text(" + k + ")", () -> x.text(k), () -> y.text(k));
                same("fault()", x::fault, y::fault);
                break;
            }
            default: same("feed", () -> x.feed(n[0], n[1], n[2], n[3], n[4]), () -> y.feed(n)); break;
        }
    }

    private void tellCall() {
        int p = predNow();
        int c = near(y.told(2));
        int l = below(4) - 1;
        int what = near(12);
        switch (below(9)) {
            case 0: same("literals(" + c + ")", () -> x.literals(c), () -> y.literals(c)); break;
            case 1: {
                int part = near(4);
                same("clause(" + c + ", " + l + ", " + part + ")", () -> x.clause(c, l, part), () -> y.clause(c, l, part));
                break;
            }
            case 2: {
                int kind = near(2);
                int i = near(1);
                same("nameAt(" + kind + ", " + p + ", " + i + ")", () -> x.nameAt(kind, p, i), () -> y.nameAt(kind, p, i));
                break;
            }
            case 3: {
                int part = near(6);
                same("predicate(" + p + ", " + part + ")", () -> x.predicate(p, part), () -> y.predicate(p, part));
                break;
            }
            case 4: same("print()", x::print, y::print); break;
            case 5: {
                int k = below(5) - 1;
                same("status(" + k + ")", () -> x.status(k), () -> y.status(k));
                break;
            }
            case 6: same("fault()", x::fault, y::fault); break;
            default: same("told(" + what + ")", () -> x.told(what), () -> y.told(what)); break;
        }
    }
}
