/** Edges of '==== 2.': goals and their calls, tables, what is completed, answers, conditions, what is stale. */
public final class EdgesOfGoals {
    private static final String ALL_EIGHT = "k(a).k(b).k(c).k(d).k(e).k(f).k(g).k(h).";

    public static void main(String[] args) {
        variants();
        allGoals();
        toldAsATable();
        headsLikeAGoal();
        literalByLiteral();
        waysInOrder();
        headVariables();
        unlikeOnesOnce();
        freshIsAHit();
        oneAheadOfTheNext();
        itselfIsAHit();
        leaders();
        leaderByLeader();
        ofOneLeaderByNumbers();
        leftAheadOfTheNext();
        callsOfStaleOnes();
        freshAheadNone();
        answersAsTheyWere();
        answersInOrder();
        nodes();
        conditionsInOrder();
        conditionsWithout();
        conditionsFull();
        staleLikeIt();
        staleCallers();
        Check.end();
    }

    private static void callsAre(Edge e, TabledGoals x, int table, int[][] want) {
        e.due("calls of table " + table, () -> x.table(table, 8), want.length);
        for (int i = 0; i < want.length; i++) {
            for (int what = 0; what < 3; what++) {
                int k = i;
                int w = what;
                e.due("call " + k + " of table " + table + ": " + w, () -> x.table(x.calls(table, k, 0), w), want[k][w]);
            }
            int k = i;
            e.due("how call " + k + " of table " + table + " is", () -> x.calls(table, k, 1), want[k][3]);
        }
        e.missing("no more calls of table " + table, () -> x.calls(table, want.length, 0));
    }

    private static void completedAre(Edge e, TabledGoals x, int... want) {
        for (int k = 0; k < want.length; k++) {
            int i = k;
            e.due("completed(" + i + ")", () -> x.completed(i), want[i]);
        }
        e.due("no more is completed", () -> x.completed(want.length), -1);
    }

    private static void variants() {
        Edge e = new Edge("two are VARIANTS, if they are alike but for which VARIABLE is which");
        TabledGoals x = Check.told("p(a,b).q(a).");
        e.due("p(X,Y)", () -> x.ask(0, -1, -2), 0);
        e.due("p(Y,X)", () -> x.find(0, -2, -1), 0);
        e.due("p(X,X) is no variant", () -> x.find(0, -1, -1), -1);
        e.due("p(Y,Y)", () -> x.ask(0, -2, -2), 1);
        e.due("p(X,X)", () -> x.find(0, -1, -1), 1);
        e.due("p(a,Y)", () -> x.ask(0, 0, -2), 2);
        e.due("p(a,X)", () -> x.find(0, 0, -1), 2);
        e.due("p(X,a) is no variant", () -> x.find(0, -1, 0), -1);
        e.due("p(b,X) is no variant", () -> x.find(0, 1, -1), -1);
        e.due("p(a,a) is no variant", () -> x.find(0, 0, 0), -1);
        e.due("q(Y)", () -> x.ask(1, -2, 0), 3);
        e.due("q(X)", () -> x.find(1, -1, 0), 3);
    }

    /** Ten predicates with two terms and eight constants: 820 goals, and a table for each. */
    private static void allGoals() {
        Edge e = new Edge("TABLES, numbered as they come, of GOALS that were gone into.");
        TabledGoals x = Check.told("a(X,Y):-j(X,X),j(Y,Y),not b(X,Y),not c(X,Y),not d(X,Y),not e(X,Y)."
                + "a(X,Y):-j(X,X),j(Y,Y),not f(X,Y),not g(X,Y),not h(X,Y),not i(X,Y)."
                + "j(a,a).j(b,b).j(c,c).j(d,d).j(e,e).j(f,f).j(g,g).j(h,h).");
        e.due("ten predicates", () -> x.told(0), 10);
        x.ask(0, -1, -2);
        e.due("a(X,Y), j(X,X), 64 of each of eight", () -> x.told(4), 514);
        boolean[] seen = new boolean[820];
        for (int p = 0; p < 10; p++) {
            for (int one = -1; one < 8; one++) {
                for (int two = one < 0 ? -2 : -1; two < 8; two++) {
                    if (p < 2 || one < 0 || two < 0) {
                        seen[x.ask(p, one, two)] = true;
                    }
                }
            }
        }
        int asked = 0;
        for (boolean b : seen) {
            asked += b ? 1 : 0;
        }
        int unlike = asked;
        e.due("18 of each with variables, 64 of a and of j, each with its own", () -> unlike, 308);
        e.due("tables", () -> x.told(4), 820);
        e.missing("a table behind the last", () -> x.table(820, 0));
        int last = x.find(9, 7, 7);
        e.due("the last goal", () -> 100 * x.table(last, 0) + 10 * x.table(last, 1) + x.table(last, 2), 977);
        e.due("of i(h,h) and of a as many as like it", () -> x.assume(9, 7, 7), 10);
        e.due("the others are fresh", () -> x.told(5), 810);
        e.due("an anew one", () -> x.ask(9, 7, 7), last);
        e.due("its answer", () -> 8 * x.answer(last, 0, 0) + x.answer(last, 0, 1), 63);
        e.due("all are gone", x::abolish, 820);
    }

    private static void toldAsATable() {
        Edge e = new Edge("(As a TABLE's they are told with -1 for the first VARIABLE, -2 for another one.)");
        TabledGoals x = Check.told("p(a,b).q(a).r.");
        int[][] asked = {{0, -2, -1}, {0, -2, -2}, {0, 1, -2}, {0, -2, 1}, {0, 0, 1}, {1, -2, 0}, {1, 1, 0}, {2, 0, 0}};
        int[][] told = {{0, -1, -2}, {0, -1, -1}, {0, 1, -1}, {0, -1, 1}, {0, 0, 1}, {1, -1, 0}, {1, 1, 0}, {2, 0, 0}};
        for (int t = 0; t < asked.length; t++) {
            int k = t;
            e.due("asked", () -> x.ask(asked[k][0], asked[k][1], asked[k][2]), k);
            for (int what = 0; what < 3; what++) {
                int w = what;
                e.due("table(" + k + ", " + w + ")", () -> x.table(k, w), told[k][w]);
            }
        }
    }

    private static void headsLikeAGoal() {
        Edge e = new Edge("(each VARIABLE of either may be told to be some CONSTANT, or a VARIABLE, so that both are alike; the least that it takes)");
        // p q r s t: 0 to 4; a b c d: 0 to 3
        String text = "p(X,X):-q(X).p(a,X):-r(X).p(X,b):-s(X).p(c,d):-t.";
        int[][] goals = {{0, 1}, {-1, -1}, {-1, -2}, {2, -1}, {-1, 3}, {3, 3}, {2, 3}, {1, 0}};
        int[][][] calls = {
            {{2, 1, 0, 1}, {3, 0, 0, 1}},
            {{1, -1, 0, 1}, {2, 0, 0, 1}, {3, 1, 0, 1}},
            {{1, -1, 0, 1}, {2, -1, 0, 1}, {3, -1, 0, 1}, {4, 0, 0, 1}},
            {{1, 2, 0, 1}, {3, 2, 0, 1}, {4, 0, 0, 1}},
            {{1, 3, 0, 1}, {2, 3, 0, 1}, {4, 0, 0, 1}},
            {{1, 3, 0, 1}},
            {{4, 0, 0, 1}},
            {}};
        for (int g = 0; g < goals.length; g++) {
            TabledGoals x = Check.told(text);
            x.ask(0, goals[g][0], goals[g][1]);
            callsAre(e, x, 0, calls[g]);
        }
        TabledGoals z = Check.told("p(X,a):-q(X).p(a,X):-r(X).p(b,b):-q(a).p(a,b):-r(a).");
        z.ask(0, -1, -1);
        callsAre(e, z, 0, new int[][] {{1, 0, 0, 1}, {2, 0, 0, 1}});
        TabledGoals y = Check.told("p(X,Y):-q(Y,X).p(Y,X):-r(X,a),q(X,Y).q(a,a).");
        y.ask(0, -1, -1);
        callsAre(e, y, 0, new int[][] {{1, -1, -1, 1}, {2, -1, 0, 1}});
    }

    private static void literalByLiteral() {
        Edge e = new Edge("the LITERAL as it is by then is a GOAL that is CALLED; then, for each way in which it is not FALSE");
        // u is undefined, t true, f and g false
        String rest = "u:-not u.t.z:-f,g.";
        String[] bodies = {"f,g", "t,g", "u,g", "not t,g", "not u,g", "not f,g", "t,u,not f,f,g"};
        int[] counts = {1, 2, 2, 1, 2, 2, 3};
        for (int b = 0; b < bodies.length; b++) {
            TabledGoals x = Check.told("p:-" + bodies[b] + "." + rest);
            x.ask(0, 0, 0);
            e.due("calls of p:-" + bodies[b], () -> x.table(0, 8), counts[b]);
        }
        TabledGoals y = Check.told("p(X):-q(X),r(X).q(a).q(b).r(b).");
        y.ask(0, 0, 0);
        callsAre(e, y, 0, new int[][] {{1, 0, 0, 1}, {2, 0, 0, 1}});
        TabledGoals z = Check.told("p.q.");
        z.ask(0, 0, 0);
        callsAre(e, z, 0, new int[][] {});
    }

    private static void waysInOrder() {
        Edge e = new Edge("(a plain one: ATOMS like it, by CONSTANTS of its TERMS; by NOT: if it is not FALSE), what is behind it");
        // b a are 0 1
        TabledGoals x = Check.told("p:-q(X,Y),not r(X,Y),s(X).q(b,a).q(a,a).q(a,b).r(a,b).");
        x.ask(0, 0, 0);
        callsAre(e, x, 0, new int[][] {{1, -1, -2, 1}, {2, 0, 1, 2}, {3, 0, 0, 1}, {2, 1, 0, 2}, {2, 1, 1, 2}, {3, 1, 0, 1}});
    }

    private static void headVariables() {
        Edge e = new Edge("(A VARIABLE of the HEAD that no CONSTANT was told for stays one until a plain LITERAL tells.)");
        String text = "p(X,Y):-q(X),r(X,Y),s(Y).q(a).r(a,b).";
        TabledGoals x = Check.told(text);
        x.ask(0, -1, -2);
        callsAre(e, x, 0, new int[][] {{1, -1, 0, 1}, {2, 0, -1, 1}, {3, 1, 0, 1}});
        TabledGoals y = Check.told(text);
        y.ask(0, -1, -1);
        callsAre(e, y, 0, new int[][] {{1, -1, 0, 1}, {2, 0, 0, 1}});
        TabledGoals z = Check.told("p(X,Y):-s,q(Y,X).s.q(a,b).");
        z.ask(0, -2, -1);
        callsAre(e, z, 0, new int[][] {{1, 0, 0, 1}, {2, -1, -2, 1}});
    }

    private static void unlikeOnesOnce() {
        Edge e = new Edge("Unlike ones count once, in order as they come, plainly or by NOT or both.");
        TabledGoals x = Check.told("p:-q,r,not q.p:-not r,s.p:-not t,not t.q.r:-not r.");
        x.ask(0, 0, 0);
        callsAre(e, x, 0, new int[][] {{1, 0, 0, 3}, {2, 0, 0, 3}, {3, 0, 0, 1}, {4, 0, 0, 2}});
        TabledGoals y = Check.told("p:-r(X,Y).p:-r(Y,X).p:-r(X,X).p:-r(a,X).p:-r(X,a).p:-r(a,Y).");
        y.ask(0, 0, 0);
        callsAre(e, y, 0, new int[][] {{1, -1, -2, 1}, {1, -1, -1, 1}, {1, 0, -1, 1}, {1, -1, 0, 1}});
    }

    private static void freshIsAHit() {
        Edge e = new Edge("if it has a FRESH TABLE, that is a HIT; else it gets a TABLE (the next number), or the one that it has is made anew (same number): FRESH, with its CALLS");
        TabledGoals x = Check.told("p:-q.q:-p.r.");
        e.due("p", () -> x.ask(0, 0, 0), 0);
        e.due("hits: q's p", () -> x.told(7), 1);
        e.due("made", () -> x.told(6), 2);
        e.due("p again", () -> x.ask(0, 0, 0), 0);
        e.due("a hit", () -> x.told(7), 2);
        e.due("nothing made", () -> x.told(6), 2);
        e.due("the next number", () -> x.ask(2, 0, 0), 2);
        e.due("q comes", () -> x.assume(1, 0, 0), 2);
        e.due("q, the same number", () -> x.ask(1, 0, 0), 1);
        e.due("p and q were made anew", () -> x.told(6), 5);
        e.due("no table more", () -> x.told(4), 3);
        e.due("fresh", () -> x.table(0, 3) + x.table(1, 3), 2);
        e.due("hits: p's q", () -> x.table(1, 10), 1);
        e.due("its answers are new", () -> x.table(1, 4), 1);
    }

    private static void oneAheadOfTheNext() {
        Edge e = new Edge("then each of these, in order, is gone into, with all that it goes into ahead of the next one (one that is FRESH: a HIT)");
        TabledGoals x = Check.told("p:-q.p:-r.q:-s.s:-r.r:-t.");
        // p q r s t: 0 1 2 3 4; p 0, q 1, s 2, r 3, t 4
        x.ask(0, 0, 0);
        int[] number = {0, 1, 3, 2, 4};
        int[] from = {-1, 0, 2, 1, 3};
        for (int p = 0; p < 5; p++) {
            int k = p;
            e.due("the table of " + k, () -> x.find(k, 0, 0), number[k]);
            e.due("what went into " + k + " first", () -> x.table(number[k], 9), from[k]);
        }
        e.due("p's r is a hit", () -> x.table(3, 10), 1);
    }

    private static void itselfIsAHit() {
        Edge e = new Edge("LEADER of a TABLE: the least number of those that come to it by CALLS and to which it comes (itself).");
        TabledGoals x = Check.told("p:-p.q.");
        x.ask(0, 0, 0);
        x.ask(1, 0, 0);
        e.due("it calls itself: a hit", () -> x.table(0, 10), 1);
        e.due("its leader is itself", () -> x.table(0, 7), 0);
        e.due("it is called by itself", () -> x.table(0, 12), 1);
        e.due("one that calls nothing is its own leader", () -> x.table(1, 7), 1);
        e.due("none calls it", () -> x.table(1, 12), 0);
        TabledGoals y = Check.told("p:-q.q:-p.");
        y.ask(0, 0, 0);
        e.due("a circle's leader", () -> y.table(1, 7), 0);
        e.due("p alone calls q", () -> y.table(1, 12), 1);
        e.due("q alone calls p", () -> y.table(0, 12), 1);
        e.due("both are fresh", () -> y.told(5), 2);
    }

    private static void leaders() {
        Edge e = new Edge("the least number of those that come to it by CALLS and to which it comes");
        TabledGoals x = Check.told("a:-b.b:-c.c:-d.d:-b.d:-e.e:-f.f:-e.a.b.c.d.e.f.");
        // b, c, d are one circle, e and f another, a comes to all and none to it
        x.ask(0, 0, 0);
        int[] leader = {0, 1, 1, 1, 4, 4};
        for (int t = 0; t < 6; t++) {
            int k = t;
            e.due("leader of " + k, () -> x.table(k, 7), leader[k]);
        }
        completedAre(e, x, 4, 5, 1, 2, 3, 0);
        TabledGoals y = Check.told("p:-q.r:-p,q.s:-r,s.q.p.r.");
        // q r s are asked one behind the other: each comes to smaller numbers, none of these to it
        y.ask(1, 0, 0);
        y.ask(0, 0, 0);
        y.ask(2, 0, 0);
        y.ask(3, 0, 0);
        for (int t = 0; t < 4; t++) {
            int k = t;
            e.due("no circle: leader of " + k, () -> y.table(k, 7), k);
        }
    }

    private static void leaderByLeader() {
        Edge e = new Edge("as the last of those with one LEADER is left for good (all that it goes into being done)");
        TabledGoals x = Check.told("p:-q,r,p.q:-s.r:-p,t.s.t.r.");
        // p 0: q 1 (s 2), r (3) goes back to p and into t (4): t is left ahead of p's circle
        x.assume(1, 0, 0);
        x.assume(0, 0, 0);
        x.ask(0, 0, 0);
        completedAre(e, x, 2, 1, 4, 0, 3);
    }

    /** One that calls what was left for good already is none of its leader's. */
    private static void leftAheadOfTheNext() {
        Edge e = new Edge("What was made in an ASK is COMPLETED LEADER by LEADER");
        TabledGoals x = Check.told("p:-q,r.r:-q,s.s:-q.q.s.r.");
        x.ask(0, 0, 0);
        // p 0, q 1, r 2, s 3
        completedAre(e, x, 1, 3, 2, 0);
        TabledGoals y = Check.told("q.p:-q.r:-p,s.s:-r,q.r.");
        y.ask(1, 0, 0);
        y.ask(2, 0, 0);
        // p 0, q 1; r 2 and s 3 are a circle
        completedAre(e, y, 2, 3);
    }

    private static void ofOneLeaderByNumbers() {
        Edge e = new Edge("of one LEADER by numbers");
        TabledGoals x = Check.told("p:-g,q.q:-p.");
        // p g q: 0 1 2; q's table is 0, p's 1, g's 2; g is false, so p does not call q
        x.ask(2, 0, 0);
        completedAre(e, x, 2, 1, 0);
        e.due("p's leader", () -> x.table(1, 7), 1);
        e.due("all are stale", () -> x.assume(1, 0, 0), 3);
        x.ask(0, 0, 0);
        completedAre(e, x, 2, 0, 1);
        e.due("p's leader is q now", () -> x.table(1, 7), 0);
    }

    /** A table that is stale has the calls that it has until it is made anew itself. */
    private static void callsOfStaleOnes() {
        Edge e = new Edge("is made anew (same number): FRESH, with its CALLS");
        TabledGoals x = Check.told("p:-g,q.q:-p.g.");
        // p 0, g 1, q 2: p and q are a circle
        x.ask(0, 0, 0);
        e.due("q's leader", () -> x.table(2, 7), 0);
        e.due("g goes: all are stale", () -> x.retract(1, 0, 0), 3);
        e.due("p still calls g and q", () -> x.table(0, 8), 2);
        e.due("q's leader is still p", () -> x.table(2, 7), 0);
        e.due("q still calls p", () -> x.table(0, 12), 1);
        e.due("p still calls q", () -> x.table(2, 12), 1);
        x.ask(0, 0, 0);
        completedAre(e, x, 1, 0);
        e.due("q is left stale", () -> x.table(2, 3), 0);
        e.due("p calls g alone now", () -> x.table(0, 8), 1);
        e.due("no circle now: q's leader", () -> x.table(2, 7), 2);
        e.due("stale q still calls p", () -> x.table(0, 12), 1);
        e.due("none calls q now", () -> x.table(2, 12), 0);
        e.due("q comes to p by that: p's and g's alone are new", () -> x.assume(1, 0, 0), 2);
    }

    private static void freshAheadNone() {
        Edge e = new Edge("(Of TABLES that were FRESH ahead none is.)");
        TabledGoals x = Check.told("p:-q.q.r:-p.s:-q,r.");
        x.ask(0, 0, 0);
        completedAre(e, x, 1, 0);
        x.ask(2, 0, 0);
        completedAre(e, x, 2);
        x.ask(2, 0, 0);
        completedAre(e, x);
        x.retract(1, 0, 0);
        x.ask(0, 0, 0);
        completedAre(e, x, 1, 0);
        x.ask(3, 0, 0);
        // q is fresh but false, so s calls it alone
        completedAre(e, x, 3);
    }

    private static void answersAsTheyWere() {
        Edge e = new Edge("ATOMS like its GOAL that are not FALSE, as they were when it was made");
        TabledGoals x = Check.told("p(X):-q(X),not r(X).q(a).q(b).r(b):-not r(b).");
        x.ask(0, -1, 0);
        e.due("p(a)", () -> x.answer(0, 0, 2), 2);
        e.due("p(b)", () -> x.answer(0, 1, 2), 1);
        x.assume(2, 0, 0);
        e.due("p(a) is false now", () -> x.value(0, 0, 0), 0);
        e.due("p(a) as it was", () -> x.answer(0, 0, 2), 2);
        e.due("true ones as they were", () -> x.table(0, 4), 1);
        x.ask(0, -1, 0);
        e.due("made anew", () -> x.table(0, 4), 0);
        e.due("p(b) is the first one now", () -> x.answer(0, 0, 0), 1);
        e.missing("no other one", () -> x.answer(0, 1, 0));
    }

    private static void answersInOrder() {
        Edge e = new Edge("ANSWERS of a TABLE: ATOMS like its GOAL that are not FALSE, as they were when it was made, by CONSTANTS of TERMS.");
        // c b a are 0 1 2
        TabledGoals x = Check.told("p(c,b).p(a,a).p(b,c).p(b,b).p(a,c).");
        int[][] goals = {{-1, -2}, {-1, -1}, {2, -1}, {-1, 0}, {1, 1}, {0, 0}};
        int[][] rows = {{1, 8, 9, 16, 18}, {9, 18}, {16, 18}, {8, 16}, {9}, {}};
        for (int g = 0; g < goals.length; g++) {
            int t = g;
            x.ask(0, goals[g][0], goals[g][1]);
            for (int i = 0; i < rows[g].length; i++) {
                int k = i;
                e.due("answer " + k + " of " + t, () -> 8 * x.answer(t, k, 0) + x.answer(t, k, 1), rows[t][k]);
            }
            e.missing("no more of " + t, () -> x.answer(t, rows[t].length, 0));
        }
    }

    private static void nodes() {
        Edge e = new Edge("a NODE for each beginning of these rows that is unlike (the empty one, too, if there are ANSWERS)");
        TabledGoals x = Check.told("p(X,Y):-k(X),k(Y)." + ALL_EIGHT + "q(a,b).q(a,c).q(b,c).t.");
        int[][] goals = {{0, -1, -2}, {0, -1, -1}, {0, 7, -1}, {0, -1, 7}, {0, 7, 7}, {1, -1, 0},
            {2, -1, -2}, {2, -1, 2}, {2, 0, -1}, {2, -1, -1}, {2, 2, -1}, {2, 0, 0}, {3, 0, 0}};
        int[] nodes = {73, 9, 9, 9, 1, 9, 6, 3, 3, 0, 0, 0, 1};
        for (int g = 0; g < goals.length; g++) {
            int k = g;
            int t = x.ask(goals[g][0], goals[g][1], goals[g][2]);
            e.due("nodes of goal " + k, () -> x.table(t, 6), nodes[k]);
        }
    }

    private static void conditionsInOrder() {
        Edge e = new Edge("CLAUSE by CLAUSE, then by CONSTANTS of VARIABLES as they come in the CLAUSE (HEAD first)");
        TabledGoals x = Check.told("p(X):-u,k(Z),k(Y),not s(Z,Y),k(X).u:-not u.p(b):-u,u.s(b,a):-u.k(a).k(b).");
        // b a are 0 1; Z, Y: (b,b), (b,a), (a,b), (a,a); s(b,a) is undefined, the others false
        for (int c = 0; c < 2; c++) {
            int k = c;
            int[] delayed = c == 0 ? new int[] {1, 2, 1, 1, 2} : new int[] {1, 2, 1, 1};
            e.due("conditions", () -> x.condition(0, k, 0, -1, 0), delayed.length);
            for (int j = 0; j < delayed.length; j++) {
                int n = j;
                e.due("delayed of " + n, () -> x.condition(0, k, 0, n, -1), delayed[n]);
                e.due("clause of " + n, () -> x.condition(0, k, 0, n, -2), n < 4 ? 0 : 2);
            }
            e.missing("no more", () -> x.condition(0, k, 0, delayed.length, -1));
        }
        e.due("the first delayed", () -> x.condition(0, 0, 0, 1, 0), 0);
        e.due("the second delayed", () -> x.condition(0, 0, 0, 1, 1), 3);
        e.missing("no third", () -> x.condition(0, 0, 0, 1, 2));
        e.due("u twice", () -> x.condition(0, 0, 0, 4, 1), 1);
    }

    private static void conditionsWithout() {
        Edge e = new Edge("INSTANCES of CLAUSES with it as HEAD no LITERAL of which is FALSE");
        TabledGoals x = Check.told("p(a):-u.p(b):-u.p(X):-u,k(X).p(a):-u,f.p(a):-u,not t.p(X):-k(X),not u.u:-not u.t.k(a).");
        // of p(a): clauses 0, 2, 5; of p(b): clause 1
        int[] clauses = {0, 2, 5};
        e.due("of p(a)", () -> x.condition(0, 0, 0, -1, -1), 3);
        for (int j = 0; j < 3; j++) {
            int n = j;
            e.due("clause of " + n, () -> x.condition(0, 0, 0, n, -2), clauses[n]);
        }
        e.due("of p(b)", () -> x.condition(0, 1, 0, -1, -1), 1);
        e.due("of p(b): its clause", () -> x.condition(0, 1, 0, 0, -2), 1);
        e.due("not u is delayed", () -> x.condition(0, 0, 0, 2, 0), 1);
    }

    private static void conditionsFull() {
        Edge e = new Edge("CONDITIONS of an UNDEFINED ANSWER: INSTANCES of CLAUSES with it as HEAD");
        TabledGoals x = Check.told("p:-u,k(X),k(Y),k(Z),not u,u." + ALL_EIGHT + "u:-not u.p:-u,u,u,u,u,not u.");
        e.due("8 times 8 times 8 and one", () -> x.condition(0, 0, 0, -1, 0), 513);
        e.due("the last of the first clause", () -> x.condition(0, 0, 0, 511, -2), 0);
        e.due("its last delayed", () -> x.condition(0, 0, 0, 511, 2), 5);
        e.due("the one of the last clause", () -> x.condition(0, 0, 0, 512, -2), 10);
        e.due("six delayed", () -> x.condition(0, 0, 0, 512, -1), 6);
        e.due("the sixth", () -> x.condition(0, 0, 0, 512, 5), 5);
        e.missing("no seventh", () -> x.condition(0, 0, 0, 512, 6));
        e.missing("no more", () -> x.condition(0, 0, 0, 513, -1));
    }

    private static void staleLikeIt() {
        Edge e = new Edge("A FACT that comes or goes makes STALE: each TABLE with a GOAL that it is like");
        int[][] goals = {{0, 1}, {0, -1}, {-1, 1}, {-1, -2}, {-1, -1}, {1, 0}, {0, 0}, {1, -1}, {-1, 0}};
        int[][] facts = {{0, 1}, {0, 0}, {1, 1}};
        // of e(a,b), e(a,a), e(b,b): which of the goals are like it
        int[] like = {0b000001111, 0b101011010, 0b010011100};
        for (int f = 0; f < facts.length; f++) {
            TabledGoals x = Check.told("f(a,b).e(c,c).g(a).h.");
            for (int[] g : goals) {
                x.ask(1, g[0], g[1]);
            }
            x.ask(0, -1, -2);
            x.ask(3, 0, 0);
            int one = facts[f][0];
            int two = facts[f][1];
            int bits = like[f];
            e.due("it comes", () -> x.assume(1, one, two), Integer.bitCount(bits));
            for (int t = 0; t < goals.length; t++) {
                int k = t;
                e.due("fresh: " + k, () -> x.table(k, 3), 1 - (bits >> k & 1));
            }
            e.due("others stay", () -> x.table(9, 3) + x.table(10, 3), 2);
            for (int[] g : goals) {
                x.ask(1, g[0], g[1]);
            }
            e.due("it goes", () -> x.retract(1, one, two), Integer.bitCount(bits));
        }
    }

    private static void staleCallers() {
        Edge e = new Edge("and each that CALLS a STALE one");
        TabledGoals x = Check.told("p:-q.q:-r.r:-not s.t:-u.u.");
        x.ask(0, 0, 0);
        x.ask(4, 0, 0);
        e.due("s comes: s, r, q, p", () -> x.assume(3, 0, 0), 4);
        e.due("t and u stay", () -> x.told(5), 2);
        e.due("s goes: all are stale already", () -> x.retract(3, 0, 0), 0);
        x.ask(2, 0, 0);
        e.due("s comes: s and r alone", () -> x.assume(3, 0, 0), 2);
        TabledGoals y = Check.told("p:-q,r.q:-p.r.");
        y.ask(0, 0, 0);
        // q is false, so p does not call r
        e.due("r has no table", () -> y.retract(2, 0, 0), 0);
        e.due("a circle is stale as a whole", () -> y.assume(1, 0, 0), 2);
    }
}
