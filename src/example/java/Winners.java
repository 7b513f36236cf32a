/** A game: who is to move at X wins, w(X), if a move m(X,Y) leads to where the other does not win. */
public final class Winners {
    private static final String CLAUSES = "w(X) :- m(X,Y), not w(Y). m(a,b). m(b,a). m(b,c). m(c,d).";
    private static final String[] VALUES = {"false", "undefined", "true"};

    public static void main(String[] args) {
        TabledGoals x = new TabledGoals();
        System.out.println(tell(x, CLAUSES) + " clauses");
        // Predicates and constants have the numbers in which they come in the text: w 0, m 1; a 0, b 1, c 2, d 3.
        for (int place = 0; place < x.told(1); place++) {
            System.out.println("w(" + (char) x.nameAt(1, place, 0) + ") is " + VALUES[x.value(0, place, 0)]);
        }
        int t = x.ask(0, -1, 0);
        System.out.println("table " + t + " of w(X): " + x.table(t, 4) + " true, " + x.table(t, 5) + " undefined");
        System.out.println("m(d,c) comes: " + x.assume(1, 3, 2) + " of " + x.told(4) + " tables are stale");
        x.ask(0, -1, 0);
        System.out.println("asked again: " + x.table(t, 4) + " true, " + x.table(t, 5) + " undefined");
    }

    /** Brings a text on the tape, twenty bytes a feed, and has it read: how many clauses, or a fault's number less 10. */
    private static int tell(TabledGoals x, String text) {
        for (int from = 0; from < text.length(); from += 20) {
            int[] numbers = new int[5];
            for (int i = 0; i < 20; i++) {
                int sign = from + i < text.length() ? text.charAt(from + i) : ' ';
                numbers[i / 4] = numbers[i / 4] << 8 | sign;
            }
            x.feed(numbers[0], numbers[1], numbers[2], numbers[3], numbers[4]);
        }
        return x.text(text.length());
    }
}
