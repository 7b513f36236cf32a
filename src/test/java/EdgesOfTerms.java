/** Edges of the document's terms up to '==== 2.': how many there may be, the model, the strata. */
public final class EdgesOfTerms {
    private static final String TEN = "a.b.c.d.e.f.g.h.i.j.";
    private static final String EIGHT = "p(a,b).p(c,d).p(e,f).p(g,h).";
    private static final String ALL_EIGHT = "k(a).k(b).k(c).k(d).k(e).k(f).k(g).k(h).";

    public static void main(String[] args) {
        tenPredicates();
        noughtToTwoTerms();
        eightConstants();
        allAtomsOfEight();
        sixtyClauses();
        sixLiterals();
        threeVariables();
        safeByNot();
        safeHead();
        instances();
        follows();
        stagesNone();
        stagesMany();
        values();
        stageOfAtoms();
        notAndSoOn();
        strata();
        strataNone();
        Check.end();
    }

    private static void tenPredicates() {
        Edge e = new Edge("PREDICATES (at most 10, numbered as they come)");
        String names = "bajcdefghi";
        TabledGoals x = Check.told("b(k):-a,not j(k,k).c.d.e.f.g.h.b(k):-i.");
        e.due("the tenth may be", () -> x.told(0), 10);
        for (int p = 0; p < 10; p++) {
            int k = p;
            e.due("the name of " + k, () -> x.nameAt(0, k, 0), names.charAt(k));
        }
        e.due("the last one", () -> x.predicate(9, 3), 1);
        e.missing("behind the last one", () -> x.predicate(10, 3));
        e.missing("ahead of the first one", () -> x.predicate(-1, 3));
        e.right(TEN + "j.", 11);
        e.text(TEN + "k.", -7, 20);
        e.text(TEN + "a:-k.", -7, 23);
        e.text(TEN + "a:-not k.", -7, 27);
        e.text(TEN + "a:-b,k(X", -7, 25);
        e.text(TEN + " a:-b, not  k", -7, 32);
    }

    private static void noughtToTwoTerms() {
        Edge e = new Edge("each with 0 to 2 TERMS");
        TabledGoals x = Check.told("p.q(a).r(a,b).s:-t(X,X),u(X).");
        int[] terms = {0, 1, 2, 0, 2, 1};
        for (int p = 0; p < terms.length; p++) {
            int k = p;
            e.due("terms of " + k, () -> x.predicate(k, 0), terms[k]);
        }
        e.text("p().", -9, 2);
        e.text("p(a,b,c).", -9, 5);
        e.text("p:-q(a,b,c).", -9, 8);
    }

    private static void eightConstants() {
        Edge e = new Edge("CONSTANTS (at most 8, likewise)");
        TabledGoals x = Check.told("p(h,g):-q(f,X),not p(e,d),q(c,b).p(a,a).");
        e.due("the eighth may be", () -> x.told(1), 8);
        for (int c = 0; c < 8; c++) {
            int k = c;
            e.due("the name of " + k, () -> x.nameAt(1, k, 0), 'h' - k);
        }
        e.missing("behind the last one", () -> x.nameAt(1, 8, 0));
        e.missing("ahead of the first one", () -> x.nameAt(1, -1, 0));
        e.due("the last one in an atom", () -> x.value(0, 7, 7), 2);
        e.missing("a ninth in an atom", () -> x.value(0, 8, 7));
        e.missing("a ninth in an atom", () -> x.value(0, 7, 8));
        e.right(EIGHT + "q(h):-p(a,h).", 5);
        e.text(EIGHT + "p(h,i).", -7, 32);
        e.text(EIGHT + "q(i).", -7, 30);
        e.text(EIGHT + "q:-p(a,i).", -7, 35);
        e.text(EIGHT + "q:-not p(i,a).", -7, 37);
        e.right(EIGHT + "i:-q.", 5);
        e.text(EIGHT + "p(p,a).", -7, 30);
    }

    private static void allAtomsOfEight() {
        Edge e = new Edge("An ATOM: a PREDICATE and as many CONSTANTS.");
        TabledGoals x = Check.told("p(X,Y):-k(X),k(Y),not q(X,Y)." + ALL_EIGHT + "q(X,Y):-k(X),k(Y),not p(X,Y).t.");
        e.due("eight and none are true", () -> x.told(9), 9);
        e.due("twice 64 are undefined", () -> x.told(10), 128);
        e.due("of one predicate", () -> x.predicate(0, 5), 64);
        e.due("the last one", () -> x.value(0, 7, 7), 1);
        e.due("without constants there is one", () -> x.predicate(3, 4), 1);
        e.due("a table of all", () -> x.ask(0, -1, -2), 0);
        e.due("all are answers", () -> x.table(0, 5), 64);
        e.due("the last answer", () -> x.answer(0, 63, 0) * 8 + x.answer(0, 63, 1), 63);
        e.missing("no more", () -> x.answer(0, 64, 0));
        e.due("k(X), k(Y), 64 by not", () -> x.table(0, 8), 65);
        e.missing("no more calls", () -> x.calls(0, 65, 0));
        TabledGoals y = Check.told("p(X,Y):-k(X),k(Y)." + ALL_EIGHT);
        e.due("all are true", () -> y.predicate(0, 4), 64);
        e.due("all and eight", () -> y.told(9), 72);
        y.ask(0, -2, -1);
        e.due("all are answers", () -> y.table(0, 4), 64);
        TabledGoals z = Check.told("r(Y,X):-p(X,Y).p(X,Y):-k(X),k(Y)." + ALL_EIGHT);
        e.due("a literal that is all of them", () -> z.predicate(0, 4), 64);
        e.due("the last one by that", () -> z.value(0, 7, 7), 2);
        e.due("one of all of them is gone", () -> z.retract(2, 7, 0) + z.predicate(0, 4), 49);
    }

    private static void sixtyClauses() {
        Edge e = new Edge("CLAUSES (at most 60, numbered from 0 on): a HEAD, and LITERALS");
        String most = "q(a).".repeat(58) + "r.";
        TabledGoals x = Check.told(most + "s:-r.");
        e.due("the 60th may be", () -> x.told(2), 60);
        e.due("the first one", () -> x.clause(0, -1, 0), 0);
        e.due("the last one", () -> x.clause(59, -1, 0), 2);
        e.due("the last one's literals", () -> x.literals(59), 1);
        e.missing("behind the last one", () -> x.clause(60, -1, 0));
        e.missing("behind the last one", () -> x.literals(60));
        e.missing("ahead of the first one", () -> x.clause(-1, -1, 0));
        e.state("no fact comes", () -> x.assume(2, 0, 0));
        x.retract(1, 0, 0);
        e.due("a fact comes in the place of one that went", () -> x.assume(2, 0, 0), 0);
        e.due("it is the 60th", () -> x.clause(59, -1, 0), 2);
        e.text(most + "r. t:-r.", -7, 295);
        e.right(most + "s.    ", 60);
    }

    private static void sixLiterals() {
        Edge e = new Edge("LITERALS (at most 6, none: it is a FACT)");
        TabledGoals x = Check.told("p:-a,not b,c,not d,e,not f.p.p:-a.");
        e.due("the sixth may be", () -> x.literals(0), 6);
        e.due("the sixth", () -> x.clause(0, 5, 0), 6);
        e.due("the sixth is by not", () -> x.clause(0, 5, 3), 1);
        e.missing("no seventh", () -> x.clause(0, 6, 0));
        e.due("none: a fact", () -> x.literals(1), 0);
        e.missing("none", () -> x.clause(1, 0, 0));
        e.due("one: no fact", () -> x.told(3), 1);
        e.right("p:-q,q,q,q,q,q.p:-q,q,q,q,q,q.", 2);
        e.text("p:-q,q,q,q,q,q,q.", -7, 15);
        e.text("p:-q,q,q,q,q,q,not q.", -7, 15);
        e.text("p:-not q,not q,not q,not q,not q,not q,q.", -7, 39);
    }

    private static void threeVariables() {
        Edge e = new Edge("VARIABLES (at most 3 unlike ones in a CLAUSE)");
        TabledGoals x = Check.told("p(C,A):-q(A,B),q(B,C),not q(C,A),q(B,B).p(X,Y):-q(Y,X),q(Z,Z).");
        e.due("the third may be", () -> x.clause(0, 0, 2), -3);
        e.due("the first", () -> x.clause(0, 1, 2), -1);
        e.due("the second", () -> x.clause(0, 2, 2), -2);
        e.due("the third again", () -> x.clause(0, 3, 1), -3);
        e.due("each clause has its own", () -> x.clause(1, 1, 1), -3);
        e.text("p:-q(A,B),q(C,D).", -7, 14);
        e.text("p(A):-q(B,C),q(A,C),q(D,A).", -7, 22);
        e.text("p:-q(A,B),q(B,C),not q(D,A).", -7, 23);
        e.right("p:-q(A,B),q(B,C).p:-q(D,E),q(E,F).", 2);
    }

    private static void safeByNot() {
        Edge e = new Edge("SAFE: each VARIABLE of a LITERAL by NOT is in a plain one ahead of it");
        e.right("p:-q(X),not r(X).", 1);
        e.right("p:-q(X),q(Y),not s(Y,X).", 1);
        e.text("p:-not r(X).", -5, 9);
        e.text("p:-not r(X),q(X).", -5, 9);
        e.text("p:-q(Y),not r(X).", -5, 14);
        e.text("p(X):-not r(X),q(X).", -5, 12);
        e.text("p:-q(X),not s(X,Y).", -5, 16);
        e.text("p:-q(Y),not s(X,Y).", -5, 14);
        e.text("p:-not r(a),not r(X),q(X).", -5, 18);
        e.text("p:-q(X).p:-not r(X).", -5, 17);
        e.right("p:-not r(a).", 1);
    }

    private static void safeHead() {
        Edge e = new Edge("each of the HEAD in some plain one");
        e.right("p(X):-not r(a),q(X).", 1);
        e.right("p(X,Y):-q(Y),r,q(X).", 1);
        e.text("p(X).", -5, 2);
        e.text("p(X):-r(a).", -5, 2);
        e.text("p(X,Y):-q(X).", -5, 4);
        e.text("p(X,Y):-q(Y).", -5, 2);
        e.text("q(X):-r(X).p(X).", -5, 13);
    }

    private static void instances() {
        Edge e = new Edge("An INSTANCE of a CLAUSE: each VARIABLE is some CONSTANT.");
        TabledGoals x = Check.told("p:-q(X).q(X):-r(X).s:-not p.");
        e.due("no constants: none", () -> x.told(9), 1);
        e.due("s alone is true", () -> x.value(3, 0, 0), 2);
        e.due("nothing is undefined", () -> x.told(10), 0);
        TabledGoals y = Check.told("p(X,Y):-q(X),q(Y).q(a).q(b).r(c).");
        e.due("two alike are one constant too", () -> y.predicate(0, 4), 4);
        e.due("of one that is in no fact of it", () -> y.value(0, 2, 2), 0);
    }

    private static void follows() {
        Edge e = new Edge("the least set with the HEAD of each INSTANCE of which all plain LITERALS are in it, and none by NOT is in K");
        TabledGoals x = Check.told("p:-p.q:-r.r:-q.s:-not p,not q.t:-s,s.u:-s,r.v:-s,not p,not s.");
        int[] value = {0, 0, 0, 2, 2, 0, 0};
        for (int p = 0; p < value.length; p++) {
            int k = p;
            e.due("value of " + k, () -> x.value(k, 0, 0), value[k]);
        }
        TabledGoals y = Check.told("t(X,Y):-e(X,Z),t(Z,Y).t(X,Y):-e(X,Y).e(a,b).e(b,c).e(b,d).e(d,a).");
        // from a, b and d to each but that c leads nowhere
        for (int one = 0; one < 4; one++) {
            for (int two = 0; two < 4; two++) {
                int c = one;
                int d = two;
                e.due("a way from " + c + " to " + d, () -> y.value(0, c, d), c == 2 ? 0 : 2);
            }
        }
    }

    private static void stagesNone() {
        Edge e = new Edge("STAGES: the least k so that TRUE k and 1 is TRUE k.");
        e.due("of no clauses", () -> new TabledGoals().told(8), 0);
        e.due("nothing is true", () -> Check.told("p:-q.").told(8), 0);
        e.due("all is undefined", () -> Check.told("p:-not q.q:-not p.").told(8), 0);
        e.due("a fact", () -> Check.told("p.").told(8), 1);
        e.due("what follows without not comes at once", () -> Check.told("p.q:-p.r:-q.s:-r.").told(8), 1);
        e.due("not of what can't be comes at once, too", () -> Check.told("p:-not q.").told(8), 1);
        e.due("not of what may be comes a stage behind", () -> Check.told("p:-not q.q:-not r.r.").told(8), 2);
    }

    private static void stagesMany() {
        Edge e = new Edge("TRUE k and 1: what FOLLOWS from POSSIBLE k.");
        // a chain of ten: j can't be; i is true in 1, h false in 1, g true in 2 .. a true in 5
        TabledGoals x = Check.told("a:-not b.b:-not c.c:-not d.d:-not e.e:-not f.f:-not g.g:-not h.h:-not i.i:-not j.");
        e.due("stages", () -> x.told(8), 5);
        int[] stage = {5, 4, 4, 3, 3, 2, 2, 1, 1, 0};
        for (int p = 0; p < 10; p++) {
            int k = p;
            e.due("stage of " + k, () -> x.stage(k, 0, 0), stage[k]);
            e.due("value of " + k, () -> x.value(k, 0, 0), k % 2 == 0 ? 2 : 0);
        }
        x.assume(9, 0, 0);
        // j true in 1, so i false in 1, h true in 2, g false in 2 .. b true in 5, a false in 5
        e.due("stages with the last one a fact", () -> x.told(8), 5);
        int[] then = {5, 5, 4, 4, 3, 3, 2, 2, 1, 1};
        for (int p = 0; p < 10; p++) {
            int k = p;
            e.due("stage of " + k + " then", () -> x.stage(k, 0, 0), then[k]);
            e.due("value of " + k + " then", () -> x.value(k, 0, 0), k % 2 == 0 ? 0 : 2);
        }
    }

    private static void values() {
        Edge e = new Edge("An ATOM is TRUE (2), if it is in TRUE of STAGES; FALSE (0), if it is not in POSSIBLE of STAGES; else UNDEFINED (1).");
        TabledGoals x = Check.told("p:-not p.q:-not q,p.r:-q.r.s:-not r,p.t:-p,u.");
        int[] value = {1, 1, 2, 0, 0, 0};
        for (int p = 0; p < value.length; p++) {
            int k = p;
            e.due("value of " + k, () -> x.value(k, 0, 0), value[k]);
        }
    }

    private static void stageOfAtoms() {
        Edge e = new Edge("STAGE of an ATOM: the least k so that it is in TRUE k, or is not in POSSIBLE k; none if it is UNDEFINED.");
        TabledGoals x = Check.told("p:-not p.q.r:-s.t:-not q.u:-not t.v:-not p.w(a,b).");
        int[] stage = {-1, 1, 0, 0, 1, 2, -1};
        for (int p = 0; p < stage.length; p++) {
            int k = p;
            e.due("stage of " + k, () -> x.stage(k, 0, 0), stage[k]);
        }
        e.due("of a fact", () -> x.stage(7, 0, 1), 1);
        e.due("of what can't be", () -> x.stage(7, 1, 0), 0);
    }

    private static void notAndSoOn() {
        Edge e = new Edge("A LITERAL by NOT is TRUE, if its ATOM is FALSE, and so on.");
        TabledGoals x = Check.told("u:-not u.t.p:-not f.p:-not u.q:-not t.q:-not u,not f.");
        // q's second clause is a condition: not u is undefined, not f is true; its first has a false literal
        e.due("q is undefined", () -> x.value(4, 0, 0), 1);
        e.due("one condition", () -> x.condition(4, 0, 0, -1, -1), 1);
        e.due("of the last clause", () -> x.condition(4, 0, 0, 0, -2), 5);
        e.due("with one delayed", () -> x.condition(4, 0, 0, 0, -1), 1);
        e.due("not u", () -> x.condition(4, 0, 0, 0, 0), 0);
        e.due("p is true", () -> x.value(2, 0, 0), 2);
    }

    private static void strata() {
        Edge e = new Edge("STRATUM of PREDICATES: the least numbers from 0 on so that the HEAD's is not below those of plain LITERALS, above those by NOT");
        TabledGoals x = Check.told("p:-q,not r.r:-s,not t.u:-p,r,t.v:-v,t.w:-not v,not u.");
        // p 2, q 0, r 1, s 0, t 0, u 2, v 0, w 3
        int[] stratum = {2, 0, 1, 0, 0, 2, 0, 3};
        for (int p = 0; p < stratum.length; p++) {
            int k = p;
            e.due("stratum of " + k, () -> x.predicate(k, 2), stratum[k]);
        }
        TabledGoals y = Check.told("j:-not i.i:-not h.h:-not g.g:-not f.f:-not e.e:-not d.d:-not c.c:-not b.b:-not a.");
        for (int p = 0; p < 10; p++) {
            int k = p;
            e.due("ten in a chain: " + k, () -> y.predicate(k, 2), 9 - k);
        }
        e.due("of a fact alone", () -> Check.told("p.").predicate(0, 2), 0);
    }

    private static void strataNone() {
        Edge e = new Edge("none for those that no number fits (and those that need one of these)");
        TabledGoals x = Check.told("p:-not p.q:-not r.r:-s.s:-q.t:-p.u:-not t.v:-w.w:-v.");
        int[] stratum = {-1, -1, -1, -1, -1, -1, 0, 0};
        for (int p = 0; p < stratum.length; p++) {
            int k = p;
            e.due("stratum of " + k, () -> x.predicate(k, 2), stratum[k]);
        }
        TabledGoals y = Check.told("w(X):-m(X,Y),not w(Y).m(a,b).n:-m(a,a).");
        e.due("though all its atoms have a value", () -> y.predicate(0, 2), -1);
        e.due("what it needs has one", () -> y.predicate(1, 2), 0);
        e.due("and what doesn't need it", () -> y.predicate(2, 2), 0);
    }
}
