import java.lang.management.ManagementFactory;

/** All that one run makes has to fit into one room; the dearest runs stay far below it. */
public final class Room {
    /** 7.3 million elements are at least four bytes each here. */
    private static final long BYTES = 4L * 7_300_000;

    private static final com.sun.management.ThreadMXBean THREADS =
            (com.sun.management.ThreadMXBean) ManagementFactory.getThreadMXBean();

    public static void main(String[] args) {
        used();
        manyObjects();
        manyTexts();
        manyTables();
        manyStages();
        Check.end();
    }

    private static long used() {
        return THREADS.getThreadAllocatedBytes(Thread.currentThread().getId());
    }

    private static void below(String what, long from, long start) {
        long bytes = used() - from;
        System.out.println(what + ": " + bytes + " bytes, " + (System.nanoTime() - start) / 1_000_000 + " ms");
        Check.due(what + " fits", () -> bytes < BYTES ? 1 : 0, 1);
    }

    private static void manyObjects() {
        long start = System.nanoTime();
        long from = used();
        long sum = 0;
        for (int i = 0; i < 512; i++) {
            sum += new TabledGoals().told(8);
        }
        long zero = sum;
        below("512 new objects", from, start);
        Check.due("new objects", () -> zero, 0);
    }

    private static void manyTexts() {
        String text = "p(X):-q(X,Y),not p(Y).".repeat(18);
        TabledGoals x = new TabledGoals();
        int[][] words = new int[20][];
        for (int i = 0; i < 20; i++) {
            words[i] = Check.words(text, 20 * i);
        }
        long start = System.nanoTime();
        long from = used();
        for (int calls = 0; calls + 21 <= 512; calls += 21) {
            for (int[] n : words) {
                x.feed(n[0], n[1], n[2], n[3], n[4]);
            }
            x.text(396);
        }
        below("24 long texts", from, start);
        Check.due("the text", () -> x.told(2), 18);
    }

    /** Seven predicates of two terms, dense, so that all goals there are get tables with many calls, again and again. */
    private static void manyTables() {
        String text = "e(a,b).e(b,c).e(c,d).e(d,e).e(e,f).e(f,g).e(g,h).e(h,a).q(X,Y):-e(X,Y).q(X,Y):-q(X,Z),q(Z,Y)."
                + "r(X,Y):-q(X,Z),q(Z,Y),not s(Z,X),not t(X,Z),not u(Z,X),not v(Y,Z)."
                + "s(X,Y):-q(X,Z),q(Z,Y),not t(Z,X),not u(X,Z),not v(Z,X),not r(Y,Z)."
                + "t(X,Y):-q(X,Z),q(Z,Y),not u(Z,X),not v(X,Z),not r(Z,X)."
                + "u(X,Y):-q(X,Z),q(Z,Y),not v(Z,X),not r(X,Y)."
                + "v(X,Y):-q(X,Y),not u(X,Y),not r(Y,X).";
        TabledGoals x = Check.told(text);
        Check.due("the dense text's fault", x::fault, -1);
        long start = System.nanoTime();
        long from = used();
        for (int round = 0; round < 256; round++) {
            if (round % 2 == 0) {
                x.assume(0, 0, 0);
            } else {
                x.retract(0, 0, 0);
            }
            x.ask(2 + round % 5, -1, -2);
        }
        below("256 times many tables anew", from, start);
        Check.due("many tables", () -> x.told(4) > 300 ? 1 : 0, 1);
    }

    /** A chain over pairs of constants, so that the stages are many. */
    private static void manyStages() {
        String text = "n(a,b).n(b,c).n(c,d).n(d,e).n(e,f).n(f,g).n(g,h).k(X):-n(X,Y).k(Y):-n(X,Y)."
                + "m(X,Y):-k(X),k(Y).w(X,Y):-m(X,Y),n(X,Z),not w(Z,Y).w(h,Y):-n(Y,Z),not w(a,Z).";
        TabledGoals x = Check.told(text);
        Check.due("the chain's fault", x::fault, -1);
        long start = System.nanoTime();
        long from = used();
        long sum = 0;
        for (int round = 0; round < 170; round++) {
            if (round % 2 == 0) {
                x.assume(1, 0, 0);
            } else {
                x.retract(1, 0, 0);
            }
            sum += x.told(8);
            x.reach(3, -1, -2);
        }
        below("170 times a long chain", from, start);
        long stages = sum / 170;
        System.out.println("stages: " + stages);
        Check.due("many stages", () -> stages > 20 ? 1 : 0, 1);
    }
}
