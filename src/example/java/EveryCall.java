import java.util.NoSuchElementException;

/** Makes every call of TabledGoals at least once, on the game that Winners tells of, and shows the answers. */
public final class EveryCall {
    /** Predicates and constants have the numbers in which they come in the text. */
    private static final int W = 0;
    private static final int M = 1;
    private static final int A = 0;
    private static final int B = 1;
    private static final int C = 2;
    private static final int D = 3;
    private static final int NONE = TabledGoals.NONE;

    public static void main(String[] args) {
        TabledGoals x = new TabledGoals();
        tell(x, "w(X) :- m(X,Y), not w(Y). m(a,b). m(b,a). m(b,c). m(c,d).");
        look(x);
        askForWinners(x);
        changeFacts(x);
        goWrong(x);
    }

    /** Brings a text on the tape, twenty bytes a feed, and has it read. */
    private static void tell(TabledGoals x, String text) {
        for (int from = 0; from < text.length(); from += 20) {
            int[] numbers = new int[5];
            for (int i = 0; i < 20; i++) {
                int sign = from + i < text.length() ? text.charAt(from + i) : ' ';
                numbers[i / 4] = numbers[i / 4] << 8 | sign;
            }
            show("feed", x.feed(numbers[0], numbers[1], numbers[2], numbers[3], numbers[4]));
        }
        show("text", x.text(text.length()));
        show("fault", x.fault());
    }

    /** The clauses and their model, without any goal. */
    private static void look(TabledGoals x) {
        show("told 2, clauses", x.told(2));
        show("told 8, stages", x.told(8));
        show("predicate w 2, its stratum", x.predicate(W, 2));
        show("nameAt letter 0 of w", x.nameAt(0, W, 0));
        show("literals of clause 0", x.literals(0));
        show("clause 0, literal 1, by not", x.clause(0, 1, 3));
        show("value of w(c)", x.value(W, C, 0));
        show("value of w(a)", x.value(W, A, 0));
        show("value of w(d)", x.value(W, D, 0));
        show("stage of w(d)", x.stage(W, D, 0));
        show("condition of w(a), how many", x.condition(W, A, 0, NONE, NONE));
        show("condition 0 of w(a), delayed literal 0", x.condition(W, A, 0, 0, 0));
    }

    /** A goal that is asked gets a table, and so does all that it calls. */
    private static void askForWinners(TabledGoals x) {
        show("reach of w(X)", x.reach(W, -1, 0));
        int winners = x.ask(W, -1, 0);
        show("ask w(X)", winners);
        show("told 4, tables", x.told(4));
        show("table 4, true answers", x.table(winners, 4));
        show("table 5, undefined answers", x.table(winners, 5));
        show("table 6, nodes of the trie", x.table(winners, 6));
        show("table 8, calls", x.table(winners, 8));
        show("answer 2, its constant", x.answer(winners, 2, 0));
        show("answer 2, true", x.answer(winners, 2, 2));
        show("calls 1, the table", x.calls(winners, 1, 0));
        show("calls 1, by not", x.calls(winners, 1, 1));
        show("completed 0", x.completed(0));
        show("find w(b)", x.find(W, B, 0));
        show("print", x.print());
    }

    /** A fact that comes or goes makes tables stale; asked again, they are made anew. */
    private static void changeFacts(TabledGoals x) {
        show("assume m(d,c), stale by that", x.assume(M, D, C));
        show("table 3, fresh", x.table(0, 3));
        show("ask w(X) again", x.ask(W, -1, 0));
        show("table 3, fresh", x.table(0, 3));
        show("retract m(d,c), stale by that", x.retract(M, D, C));
        show("abolish", x.abolish());
    }

    /** What is wrong is refused and counted; a text with a fault leaves all clauses as they were. */
    private static void goWrong(TabledGoals x) {
        try {
            x.value(W, 8, 0);
        } catch (NoSuchElementException e) {
            show("status 0, refused", x.status(0));
        }
        tell(x, "w(a) :- not.");
        show("told 2, clauses", x.told(2));
    }

    private static void show(String what, long answer) {
        System.out.println(what + ": " + answer);
    }
}
