/**
 * Every call with numbers at the edges of what is allowed, in several states: whether it is refused and how, that all
 * stays as it was then, and that status() counts it. What is due is worked out here from '==== 3.' and the promises.
 */
public final class Refusals {
    private static final int LOW = Integer.MIN_VALUE;
    private static final int HIGH = Integer.MAX_VALUE;
    private static final int[] PREDICATES = {LOW, -1, 0, 1, 2, 3, 10, HIGH};
    private static final int[] TERMS = {LOW, -3, -2, -1, 0, 1, 2, 3, 8, HIGH};
    private static final int[] NUMBERS = {LOW, -3, -2, -1, 0, 1, 2, 3, 4, 5, 6, 7, 8, 11, 12, 13, 59, 60, HIGH};

    /** A call on the object that a state makes. */
    private interface On {
        long go(TabledGoals x);
    }

    /** What a state's object holds, as it is known here and not as the object tells it. */
    private abstract static class State {
        String name;
        int tape;
        int constants;
        /** Of each predicate how many terms. */
        int[] terms = {};
        int[] letters = {};
        int[] constantLetters = {};
        /** Of each clause how many literals. */
        int[] literals = {};
        /** Of each table how many calls, how many answers. */
        int[] calls = {};
        int[] answers = {};
        private String shot;

        abstract TabledGoals make();

        abstract boolean isFact(int p, int one, int two);

        /** In the states here an undefined atom has one condition with one delayed literal. */
        abstract boolean isUndefined(int p, int one, int two);

        final String shot() {
            if (shot == null) {
                Shot taken = new Shot(make());
                Check.due("calls of a shot of " + name, () -> taken.calls() < 480 ? 1 : 0, 1);
                shot = taken.all();
            }
            return shot;
        }
    }

    private static final class Empty extends State {
        Empty() {
            name = "a new object";
        }

        TabledGoals make() {
            return new TabledGoals();
        }

        boolean isFact(int p, int one, int two) {
            return false;
        }

        boolean isUndefined(int p, int one, int two) {
            return false;
        }
    }

    /** No clauses, a full tape, a fault. */
    private static final class FullTape extends State {
        FullTape() {
            name = "a full tape";
            tape = 400;
        }

        TabledGoals make() {
            TabledGoals x = Check.told("p(X).");
            Check.bring(x, "p.".repeat(200));
            return x;
        }

        boolean isFact(int p, int one, int two) {
            return false;
        }

        boolean isUndefined(int p, int one, int two) {
            return false;
        }
    }

    /** Fresh and stale tables, undefined atoms, a fault, bytes on the tape, completed ones, refusals ahead. */
    private static final class Mixed extends State {
        Mixed() {
            name = "a mixed state";
            tape = 40;
            constants = 2;
            terms = new int[] {1, 2, 0};
            letters = new int[] {8, 1, 2};
            constantLetters = new int[] {8, 1};
            literals = new int[] {2, 0, 0};
            // u, w(a), m(a,-1), w(b), m(b,-1), m(-1,-1)
            calls = new int[] {0, 2, 0, 2, 0, 0};
            answers = new int[] {1, 1, 1, 1, 1, 0};
        }

        TabledGoals make() {
            TabledGoals x = Check.told("wwwwwwww(X):-m(X,Y),not wwwwwwww(Y).m(aaaaaaaa,b).m(b,aaaaaaaa).uv.");
            x.ask(2, 0, 0);
            x.ask(0, 0, 0);
            x.ask(1, -1, -1);
            x.retract(2, 0, 0);
            Check.outcome(() -> x.told(12));
            Check.outcome(() -> x.told(-1));
            Check.outcome(() -> x.table(6, 0));
            Check.bring(x, "p(X).");
            x.text(5);
            Check.bring(x, "p.                  q.");
            return x;
        }

        boolean isFact(int p, int one, int two) {
            return p == 1 && one != two;
        }

        boolean isUndefined(int p, int one, int two) {
            return p == 0;
        }
    }

    /** 60 clauses. */
    private static final class FullClauses extends State {
        FullClauses() {
            name = "60 clauses";
            constants = 1;
            terms = new int[] {0, 0, 1};
            letters = new int[] {1, 1, 1};
            constantLetters = new int[] {1};
            literals = new int[60];
            literals[0] = 1;
            // s, r
            calls = new int[] {1, 0};
            answers = new int[] {1, 1};
        }

        TabledGoals make() {
            TabledGoals x = Check.told("s:-r." + "r.".repeat(58) + "q(a).");
            x.ask(0, 0, 0);
            return x;
        }

        boolean isFact(int p, int one, int two) {
            return p != 0;
        }

        boolean isUndefined(int p, int one, int two) {
            return false;
        }
    }

    public static void main(String[] args) {
        State[] states = {new Empty(), new FullTape(), new Mixed(), new FullClauses()};
        for (State s : states) {
            tapeAndText(s);
            never(s);
            facts(s);
            goals(s);
            atoms(s);
            conditions(s);
            whole(s);
            names(s);
            clauses(s);
            tables(s);
        }
        Check.end();
    }

    /** A refused call, or one that only reads. */
    private static void stays(State s, String what, String due, On call) {
        String shot = s.shot();
        TabledGoals x = s.make();
        int[] before = {x.status(0), x.status(1), x.status(2)};
        String got = Check.outcome(() -> call.go(x));
        String[] kinds = {Check.MISSING, Check.ARGUMENT, Check.STATE};
        String said = got.startsWith("throws.") ? got : "nothing";
        Check.due(s.name + ": " + what + " throws " + said + ", due is " + due, () -> said.equals(due) ? 1 : 0, 1);
        for (int k = 0; k < 3; k++) {
            int kind = k;
            Check.due(s.name + ": status(" + k + ") behind " + what, () -> x.status(kind), before[k] + (due.equals(kinds[k]) ? 1 : 0));
        }
        String unlike = Shot.unlike(shot, new Shot(x).all());
        Check.due(s.name + ": all stays behind " + what + ", but " + unlike, () -> unlike.isEmpty() ? 1 : 0, 1);
    }

    /** A call that changes something: that it is not refused is all that is looked at here. */
    private static void goesOn(State s, String what, On call) {
        TabledGoals x = s.make();
        int before = x.status(0) + x.status(1) + x.status(2);
        String got = Check.outcome(() -> call.go(x));
        Check.due(s.name + ": " + what + " answers " + got, () -> got.startsWith("throws.") ? 1 : 0, 0);
        Check.due(s.name + ": status behind " + what, () -> x.status(0) + x.status(1) + x.status(2), before);
    }

    private static void answersNone(State s, String what, On call) {
        Check.due(s.name + ": " + what, () -> call.go(s.make()), TabledGoals.NONE);
        stays(s, what, "nothing", call);
    }

    private static boolean isOf(int number, int count) {
        return number >= 0 && number < count;
    }

    private static String dueAtom(State s, int p, int one, int two) {
        if (!isOf(p, s.terms.length)) {
            return Check.MISSING;
        }
        int n = s.terms[p];
        if (n > 0 && !isOf(one, s.constants) || n > 1 && !isOf(two, s.constants)) {
            return Check.MISSING;
        }
        return n < 1 && one != 0 || n < 2 && two != 0 ? Check.ARGUMENT : "nothing";
    }

    private static String dueGoal(State s, int p, int one, int two) {
        if (!isOf(p, s.terms.length)) {
            return Check.MISSING;
        }
        int n = s.terms[p];
        if (n > 0 && one >= s.constants || n > 1 && two >= s.constants) {
            return Check.MISSING;
        }
        boolean others = n > 0 && one < -2 || n > 1 && two < -2;
        return others || n < 1 && one != 0 || n < 2 && two != 0 ? Check.ARGUMENT : "nothing";
    }

    private static String dueWhat(int what, int most) {
        return what < 0 || what > most ? Check.ARGUMENT : "nothing";
    }

    private static void tapeAndText(State s) {
        int[] wrong = {LOW, -2, -1, s.tape + 1, s.tape + 20, HIGH};
        for (int n : wrong) {
            stays(s, "text(" + n + ")", Check.ARGUMENT, x -> x.text(n));
        }
        goesOn(s, "text(0)", x -> x.text(0));
        goesOn(s, "text(" + s.tape + ")", x -> x.text(s.tape));
        if (s.tape == 400) {
            answersNone(s, "feed of a full tape", x -> x.feed(1, 2, 3, 4, 5));
        } else {
            goesOn(s, "feed", x -> x.feed(LOW, HIGH, -1, 0, 1));
        }
    }

    private static void never(State s) {
        goesOn(s, "abolish()", TabledGoals::abolish);
        stays(s, "fault()", "nothing", TabledGoals::fault);
        stays(s, "print()", "nothing", TabledGoals::print);
        for (int n : NUMBERS) {
            stays(s, "completed(" + n + ")", "nothing", x -> x.completed(n));
            stays(s, "status(" + n + ")", "nothing", x -> x.status(n));
        }
    }

    private static void facts(State s) {
        for (int p : PREDICATES) {
            for (int one : TERMS) {
                for (int two : TERMS) {
                    String args = "(" + p + ", " + one + ", " + two + ")";
                    String due = dueAtom(s, p, one, two);
                    boolean right = due.equals("nothing");
                    boolean is = right && s.isFact(p, one, two);
                    On assume = x -> x.assume(p, one, two);
                    On retract = x -> x.retract(p, one, two);
                    if (!right) {
                        stays(s, "assume" + args, due, assume);
                        stays(s, "retract" + args, due, retract);
                    } else if (is) {
                        answersNone(s, "assume" + args, assume);
                        goesOn(s, "retract" + args, retract);
                    } else {
                        answersNone(s, "retract" + args, retract);
                        if (s.literals.length == 60) {
                            stays(s, "assume" + args, Check.STATE, assume);
                        } else {
                            goesOn(s, "assume" + args, assume);
                        }
                    }
                }
            }
        }
    }

    private static void goals(State s) {
        for (int p : PREDICATES) {
            for (int one : TERMS) {
                for (int two : TERMS) {
                    String args = "(" + p + ", " + one + ", " + two + ")";
                    String due = dueGoal(s, p, one, two);
                    On ask = x -> x.ask(p, one, two);
                    if (due.equals("nothing")) {
                        goesOn(s, "ask" + args, ask);
                    } else {
                        stays(s, "ask" + args, due, ask);
                    }
                    stays(s, "find" + args, due, x -> x.find(p, one, two));
                    stays(s, "reach" + args, due, x -> x.reach(p, one, two));
                }
            }
        }
    }

    private static void atoms(State s) {
        for (int p : PREDICATES) {
            for (int one : TERMS) {
                for (int two : TERMS) {
                    String args = "(" + p + ", " + one + ", " + two + ")";
                    String due = dueAtom(s, p, one, two);
                    stays(s, "value" + args, due, x -> x.value(p, one, two));
                    stays(s, "stage" + args, due, x -> x.stage(p, one, two));
                }
            }
        }
    }

    private static String dueCondition(State s, int[] a) {
        String due = dueAtom(s, a[0], a[1], a[2]);
        if (!due.equals("nothing")) {
            return due;
        }
        if (!s.isUndefined(a[0], a[1], a[2])) {
            return Check.MISSING;
        }
        boolean there = a[3] == -1 || a[3] == 0 && (a[4] == -1 || a[4] == -2 || a[4] == 0);
        return there ? "nothing" : Check.MISSING;
    }

    private static void conditions(State s) {
        int[][] atoms = {{0, 0, 0}, {0, 1, 0}, {0, 0, 1}, {0, 2, 0}, {0, -1, 0}, {1, 0, 1}, {1, 0, 0}, {2, 0, 0}, {2, 1, 0}, {3, 0, 0}, {-1, 0, 0}};
        int[] numbers = {LOW, -3, -2, -1, 0, 1, 2, HIGH};
        for (int[] atom : atoms) {
            for (int j : numbers) {
                for (int l : numbers) {
                    int[] a = {atom[0], atom[1], atom[2], j, l};
                    String args = "(" + a[0] + ", " + a[1] + ", " + a[2] + ", " + j + ", " + l + ")";
                    stays(s, "condition" + args, dueCondition(s, a), x -> x.condition(a[0], a[1], a[2], a[3], a[4]));
                }
            }
        }
    }

    private static void whole(State s) {
        for (int what : NUMBERS) {
            stays(s, "told(" + what + ")", dueWhat(what, 11), x -> x.told(what));
            for (int p : PREDICATES) {
                String due = isOf(p, s.terms.length) ? dueWhat(what, 5) : Check.MISSING;
                stays(s, "predicate(" + p + ", " + what + ")", due, x -> x.predicate(p, what));
            }
        }
    }

    private static void names(State s) {
        for (int kind : new int[] {LOW, -1, 0, 1, 2, HIGH}) {
            for (int k : PREDICATES) {
                for (int i : new int[] {LOW, -1, 0, 1, 2, 7, 8, HIGH}) {
                    int[] letters = kind == 0 ? s.letters : s.constantLetters;
                    boolean there = isOf(k, letters.length) && isOf(i, letters[k]);
                    String due = kind < 0 || kind > 1 ? Check.ARGUMENT : there ? "nothing" : Check.MISSING;
                    stays(s, "nameAt(" + kind + ", " + k + ", " + i + ")", due, x -> x.nameAt(kind, k, i));
                }
            }
        }
    }

    private static void clauses(State s) {
        for (int c : NUMBERS) {
            boolean there = isOf(c, s.literals.length);
            stays(s, "literals(" + c + ")", there ? "nothing" : Check.MISSING, x -> x.literals(c));
            for (int l : new int[] {LOW, -2, -1, 0, 1, 2, HIGH}) {
                for (int what : new int[] {LOW, -1, 0, 3, 4, HIGH}) {
                    boolean both = there && (l == -1 || isOf(l, s.literals[c]));
                    String due = both ? dueWhat(what, 3) : Check.MISSING;
                    stays(s, "clause(" + c + ", " + l + ", " + what + ")", due, x -> x.clause(c, l, what));
                }
            }
        }
    }

    private static void tables(State s) {
        for (int t : NUMBERS) {
            boolean there = isOf(t, s.calls.length);
            for (int what : NUMBERS) {
                stays(s, "table(" + t + ", " + what + ")", there ? dueWhat(what, 12) : Check.MISSING, x -> x.table(t, what));
            }
            for (int i : new int[] {LOW, -2, -1, 0, 1, 2, HIGH}) {
                for (int what : new int[] {LOW, -1, 0, 1, 2, 3, HIGH}) {
                    String args = "(" + t + ", " + i + ", " + what + ")";
                    String dueCalls = there && isOf(i, s.calls[t]) ? dueWhat(what, 1) : Check.MISSING;
                    String dueAnswer = there && isOf(i, s.answers[t]) ? dueWhat(what, 2) : Check.MISSING;
                    stays(s, "calls" + args, dueCalls, x -> x.calls(t, i, what));
                    stays(s, "answer" + args, dueAnswer, x -> x.answer(t, i, what));
                }
            }
        }
    }
}
