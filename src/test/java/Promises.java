/** Each promise by examples worked out by hand: ordinary calls, the edges that the document names, wrong calls. */
public final class Promises {
    /** w: 0, m: 1; a b c d: 0 1 2 3. w(c) is true, w(d) false, w(a) and w(b) undefined. */
    private static final String WIN = "w(X):-m(X,Y),not w(Y).m(a,b).m(b,a).m(b,c).m(c,d).";
    /** t: 0, e: 1, s: 2; a b c: 0 1 2. */
    private static final String WAYS = "t(X,Y):-e(X,Y).t(X,Y):-e(X,Z),t(Z,Y).s(X):-e(X,X).e(a,b).e(b,c).e(c,b).";
    /** p: 0, q: 1, r: 2, none with terms; p and q undefined. */
    private static final String EVEN = "p:-not q.q:-not p.r:-p,q.";

    public static void main(String[] args) {
        promise1();
        promise2();
        promise3();
        promise4();
        promise5();
        promise5Full();
        promise6();
        promise7();
        promise8();
        promise9();
        promise10();
        promise11();
        promise12And13();
        promise14And15();
        promise16();
        promise17();
        promise17Leader();
        promise18();
        promise18Order();
        promise19();
        promise20();
        promise21();
        promise22();
        promise23();
        promise24();
        Check.end();
    }

    private static void promise1() {
        TabledGoals x = new TabledGoals();
        Check.due("1: NONE", () -> TabledGoals.NONE, -1);
        for (int what = 0; what <= 11; what++) {
            int w = what;
            Check.due("1: told(" + w + ") of a new object", () -> x.told(w), 0);
        }
        Check.due("1: fault() of a new object", x::fault, -1);
        Check.due("1: completed(0) of a new object", () -> x.completed(0), -1);
        Check.due("1: print() of a new object", x::print, 0);
        Check.due("1: literals(0) of a new object", () -> x.literals(0), Check.MISSING);
        Check.due("1: table(0, 0) of a new object", () -> x.table(0, 0), Check.MISSING);
    }

    private static void promise2() {
        TabledGoals x = new TabledGoals();
        int pq = 'p' << 24 | '.' << 16 | 'q' << 8 | '.';
        for (int n = 20; n <= 400; n += 20) {
            Check.due("2: feed()", () -> x.feed(pq, -1, 0, Integer.MIN_VALUE, Integer.MAX_VALUE), n);
        }
        Check.due("2: feed() with the tape full", () -> x.feed(0, 0, 0, 0, 0), -1);
        Check.due("2: told(11) with the tape full", () -> x.told(11), 400);
        Check.due("2: the highest byte comes first", () -> x.text(4), 2);
        Check.due("2: p is the first predicate", () -> x.nameAt(0, 0, 0), 'p');
        Check.due("2: the tape is empty then", () -> x.feed(0, 0, 0, 0, 0), 20);
        TabledGoals y = new TabledGoals();
        y.feed('p' << 24 | '.' << 16 | 0xFF00, 0, 0, 0, 0);
        Check.due("2: a byte of 255 is no blank", () -> y.text(3), -9);
        Check.due("2: a byte of 255 is no blank", y::fault, 2);
    }

    private static void promise3() {
        TabledGoals x = Check.told(WIN);
        x.ask(0, 0, 0);
        x.ask(0, 0, 0);
        Check.bring(x, "p.q.:");
        Check.due("3: text(-1)", () -> x.text(-1), Check.ARGUMENT);
        Check.due("3: text(21) with 20 bytes", () -> x.text(21), Check.ARGUMENT);
        Check.due("3: the tape stays", () -> x.told(11), 20);
        Check.due("3: a text with a fault", () -> x.text(5), -9);
        Check.due("3: the tape is empty behind a fault", () -> x.told(11), 0);
        Check.due("3: clauses stay behind a fault", () -> x.told(2), 5);
        Check.due("3: predicates stay behind a fault", () -> x.nameAt(0, 0, 0), 'w');
        Check.due("3: tables stay behind a fault", () -> x.told(4), 8);
        Check.due("3: hits stay behind a fault", () -> x.told(7), 2);
        Check.due("3: fault()", x::fault, 4);
        Check.bring(x, "q.q:-r. p.");
        Check.due("3: the first bytes alone", () -> x.text(7), 2);
        Check.due("3: fault() is gone", x::fault, -1);
        Check.due("3: predicates anew", () -> x.told(0), 2);
        Check.due("3: constants anew", () -> x.told(1), 0);
        Check.due("3: no tables", () -> x.told(4), 0);
        Check.due("3: told(6)", () -> x.told(6), 0);
        Check.due("3: told(7)", () -> x.told(7), 0);
        Check.due("3: what is behind is gone from the tape", () -> x.told(11), 0);
        Check.due("3: text(0)", () -> x.text(0), 0);
        Check.due("3: no clauses", () -> x.told(2), 0);
        Check.due("3: no predicates", () -> x.told(0), 0);
    }

    private static void promise4() {
        TabledGoals x = Check.told("p(");
        Check.due("4: the place", x::fault, 2);
        Check.due("4: a refused text()", () -> x.text(1), Check.ARGUMENT);
        Check.due("4: the place stays behind a refused text()", x::fault, 2);
        Check.bring(x, "p.");
        Check.due("4: the place stays until a text()", x::fault, 2);
        x.text(2);
        Check.due("4: none", x::fault, -1);
    }

    private static void promise5() {
        TabledGoals x = Check.told(WAYS);
        Check.due("5: a predicate that there is none of", () -> x.assume(3, 0, 0), Check.MISSING);
        Check.due("5: a constant that there is none of", () -> x.assume(1, 0, 3), Check.MISSING);
        Check.due("5: a variable is no constant", () -> x.assume(1, -1, 0), Check.MISSING);
        Check.due("5: NoSuchElementException ahead", () -> x.assume(2, 3, 1), Check.MISSING);
        Check.due("5: a term too many", () -> x.assume(2, 1, 1), Check.ARGUMENT);
        Check.due("5: it is one already", () -> x.assume(1, 0, 1), -1);
        Check.due("5: nothing happened", () -> x.told(2), 6);
        x.ask(0, 0, -1); // t(a,-1), e(a,-1), t(b,-1), e(b,-1), t(c,-1), e(c,-1)
        x.ask(2, 0, 0);  // s(a), e(a,a)
        Check.due("5: tables", () -> x.told(4), 8);
        Check.due("5: e(a,a) comes", () -> x.assume(1, 0, 0), 4);
        Check.due("5: stale are those like it and those that call them", () -> x.told(5), 4);
        Check.due("5: it is the last clause", () -> x.clause(6, -1, 0), 1);
        Check.due("5: it has no literals", () -> x.literals(6), 0);
        Check.due("5: facts", () -> x.told(3), 4);
        Check.due("5: the model has it", () -> x.value(2, 0, 0), 2);
        Check.due("5: again", () -> x.assume(1, 0, 0), -1);
        Check.due("5: e(a,c) touches only stale ones", () -> x.assume(1, 0, 2), 0);
        Check.due("5: e(c,c) touches t(c,-1), e(c,-1), t(b,-1)", () -> x.assume(1, 2, 2), 3);
        Check.due("5: a fact of a predicate with rules", () -> x.assume(0, 1, 0), 0);
    }

    private static void promise5Full() {
        StringBuilder b = new StringBuilder("q(a):-r.");
        for (int i = 1; i < 59; i++) {
            b.append("r.");
        }
        TabledGoals x = Check.told(b.toString());
        Check.due("5: 59 clauses", () -> x.told(2), 59);
        Check.due("5: a 60th", () -> x.assume(0, 0, 0), 0);
        Check.due("5: 60 clauses", () -> x.told(2), 60);
        x.retract(0, 0, 0);
        x.retract(1, 0, 0);
        x.assume(0, 0, 0);
        Check.due("5: 59 again", () -> x.told(2), 59);
        TabledGoals y = Check.told(b + "r.");
        Check.due("5: a 61st", () -> y.assume(0, 0, 0), Check.STATE);
        Check.due("5: NoSuchElementException ahead of IllegalStateException", () -> y.assume(0, 1, 0), Check.MISSING);
        Check.due("5: IllegalArgumentException ahead of it", () -> y.assume(1, 1, 0), Check.ARGUMENT);
        Check.due("5: it is one already, nothing happens", () -> y.assume(1, 0, 0), -1);
        Check.due("5: counted", () -> y.status(2), 1);
        Check.due("5: nothing happened", () -> y.told(2), 60);
    }

    private static void promise6() {
        TabledGoals x = Check.told("p(a).q:-p(a).p(b).p(a).r(X):-p(X).");
        Check.due("6: a predicate that there is none of", () -> x.retract(3, 0, 0), Check.MISSING);
        Check.due("6: a constant that there is none of", () -> x.retract(0, 2, 0), Check.MISSING);
        Check.due("6: a term too many", () -> x.retract(0, 0, 1), Check.ARGUMENT);
        Check.due("6: it is none", () -> x.retract(1, 0, 0), -1);
        Check.due("6: it is true, but no fact", () -> x.retract(2, 0, 0), -1);
        x.ask(1, 0, 0); // q, p(a)
        x.ask(2, 1, 0); // r(b), p(b)
        Check.due("6: the first of two goes", () -> x.retract(0, 0, 0), 2);
        Check.due("6: clauses behind it have one less", () -> x.clause(0, -1, 0), 1);
        Check.due("6: clauses behind it have one less", () -> x.literals(0), 1);
        Check.due("6: clauses behind it have one less", () -> x.clause(1, -1, 1), 1);
        Check.due("6: clauses behind it have one less", () -> x.clause(3, 0, 1), -1);
        Check.due("6: four left", () -> x.told(2), 4);
        Check.due("6: the other one still is", () -> x.value(1, 0, 0), 2);
        Check.due("6: the second goes", () -> x.retract(0, 0, 0), 0);
        Check.due("6: none is left", () -> x.value(1, 0, 0), 0);
        Check.due("6: none is left", () -> x.retract(0, 0, 0), -1);
        Check.due("6: q stays a clause", () -> x.predicate(1, 1), 1);
    }

    private static void promise7() {
        TabledGoals x = Check.told(WAYS);
        Check.due("7: a predicate that there is none of", () -> x.ask(3, 0, 0), Check.MISSING);
        Check.due("7: a constant that there is none of", () -> x.ask(0, 0, 3), Check.MISSING);
        Check.due("7: NoSuchElementException ahead", () -> x.ask(0, -3, 3), Check.MISSING);
        Check.due("7: another variable", () -> x.ask(0, 0, -3), Check.ARGUMENT);
        Check.due("7: a variable where there is no term", () -> x.ask(2, 0, -1), Check.ARGUMENT);
        Check.due("7: nothing was made", () -> x.told(4), 0);
        Check.due("7: t(X,Y)", () -> x.ask(0, -2, -1), 0);
        // t(-1,-2); e(-1,-2); t(b,-1); e(b,-1); t(c,-1); e(c,-1)
        Check.due("7: tables", () -> x.told(4), 6);
        Check.due("7: made", () -> x.told(6), 6);
        Check.due("7: hits: t(c,-1) calls t(b,-1); t(X,Y) calls t(c,-1)", () -> x.told(7), 2);
        Check.due("7: a variant is a hit", () -> x.ask(0, -1, -2), 0);
        Check.due("7: a hit", () -> x.told(7), 3);
        Check.due("7: hits of it", () -> x.table(0, 10), 1);
        Check.due("7: t(X,X) is another goal", () -> x.ask(0, -1, -1), 6);
        x.assume(1, 0, 0);
        Check.due("7: made anew, the same number", () -> x.ask(0, -1, -1), 6);
        Check.due("7: made twice", () -> x.table(6, 11), 2);
        Check.due("7: fresh", () -> x.table(6, 3), 1);
    }

    private static void promise8() {
        TabledGoals x = Check.told(WIN);
        Check.due("8: none", x::abolish, 0);
        x.ask(0, 0, 0);
        x.assume(1, 3, 3);
        Check.due("8: fresh and stale ones", x::abolish, 8);
        Check.due("8: none now", () -> x.told(4), 0);
        Check.due("8: none fresh", () -> x.told(5), 0);
        Check.due("8: how often they were made stays", () -> x.told(6), 8);
        Check.due("8: hits stay", () -> x.told(7), 1);
        Check.due("8: none completed", () -> x.completed(0), -1);
        Check.due("8: not found", () -> x.find(0, 0, 0), -1);
        Check.due("8: clauses stay", () -> x.told(2), 6);
        Check.due("8: numbers begin anew", () -> x.ask(1, 0, -1), 0);
        Check.due("8: hits of it begin anew", () -> x.table(0, 10), 0);
        Check.due("8: made begins anew", () -> x.table(0, 11), 1);
        Check.due("8: it calls none", () -> x.table(0, 8), 0);
    }

    private static void promise9() {
        TabledGoals x = Check.told(WIN);
        x.ask(0, 1, 0);
        x.feed(0, 0, 0, 0, 0);
        x.assume(1, 3, 3);
        int[] want = {2, 4, 6, 5, 8, 3, 8, 1, 1, 5, 4, 20};
        for (int what = 0; what < want.length; what++) {
            int w = what;
            Check.due("9: told(" + w + ")", () -> x.told(w), want[w]);
        }
        Check.due("9: told(12)", () -> x.told(12), Check.ARGUMENT);
        Check.due("9: told(-1)", () -> x.told(-1), Check.ARGUMENT);
        TabledGoals y = Check.told("a.b:-not a.c:-not b.d:-not c.e:-not d.f:-e,not g.g:-g.");
        // TRUE 1: a; TRUE 2: c; TRUE 3: e, f
        Check.due("9: stages", () -> y.told(8), 3);
        Check.due("9: true ones", () -> y.told(9), 4);
        Check.due("9: undefined ones", () -> y.told(10), 0);
    }

    private static void promise10() {
        TabledGoals x = Check.told("p(X,Y):-q(X),q(Y),not rs(X).rs(a).q(a).q(b).n:-not p(b,b).u:-not u.v:-u.v.z:-not v,zz.");
        int[][] want = {{2, 1, 1, 1, 2, 0}, {1, 2, 0, 1, 2, 0}, {1, 1, 0, 2, 1, 0}, {0, 1, 2, 1, 0, 0},
            {0, 1, -1, 1, 0, 1}, {0, 2, -1, 1, 1, 0}, {0, 1, -1, 1, 0, 0}, {0, 0, 0, 2, 0, 0}};
        for (int p = 0; p < want.length; p++) {
            for (int what = 0; what < 6; what++) {
                int k = p;
                int w = what;
                Check.due("10: predicate(" + k + ", " + w + ")", () -> x.predicate(k, w), want[k][w]);
            }
        }
        Check.due("10: predicate(8, 0)", () -> x.predicate(8, 0), Check.MISSING);
        Check.due("10: predicate(-1, 9)", () -> x.predicate(-1, 9), Check.MISSING);
        Check.due("10: predicate(0, 6)", () -> x.predicate(0, 6), Check.ARGUMENT);
        Check.due("10: predicate(0, -1)", () -> x.predicate(0, -1), Check.ARGUMENT);
        TabledGoals y = Check.told("a.b:-not a.c:-not b.d:-not c.e:-not d.f:-not e.g:-not f.h:-not g.i:-not h.j:-not i.");
        Check.due("10: the highest stratum", () -> y.predicate(9, 2), 9);
        TabledGoals z = Check.told("a:-b,not c.b:-a.c.d:-b.");
        Check.due("10: a circle without not", () -> z.predicate(1, 2), 1);
        Check.due("10: above it", () -> z.predicate(3, 2), 1);
    }

    private static void promise11() {
        TabledGoals x = Check.told("abcdefgh(xyz,p):-q.");
        String name = "abcdefgh";
        for (int i = 0; i < 8; i++) {
            int k = i;
            Check.due("11: a letter of a predicate", () -> x.nameAt(0, 0, k), name.charAt(k));
        }
        Check.due("11: of the second predicate", () -> x.nameAt(0, 1, 0), 'q');
        Check.due("11: of a constant", () -> x.nameAt(1, 0, 2), 'z');
        Check.due("11: of the second constant", () -> x.nameAt(1, 1, 0), 'p');
        Check.due("11: behind a name", () -> x.nameAt(0, 0, 8), Check.MISSING);
        Check.due("11: behind a name", () -> x.nameAt(1, 0, 3), Check.MISSING);
        Check.due("11: ahead of a name", () -> x.nameAt(1, 0, -1), Check.MISSING);
        Check.due("11: no such predicate", () -> x.nameAt(0, 2, 0), Check.MISSING);
        Check.due("11: no such constant", () -> x.nameAt(1, 2, 0), Check.MISSING);
        Check.due("11: no such constant", () -> x.nameAt(1, -1, 0), Check.MISSING);
        Check.due("11: no such kind", () -> x.nameAt(2, 0, 0), Check.ARGUMENT);
        Check.due("11: no such kind", () -> x.nameAt(-1, 0, 0), Check.ARGUMENT);
    }

    private static void promise12And13() {
        TabledGoals x = Check.told("p(Z,a):-q(Y,Z),not r(Y),q(b,X).r(a).s.");
        int[][] want = {{0, -1, 0, 0}, {1, -2, -1, 0}, {2, -2, 0, 1}, {1, 1, -3, 0}};
        for (int l = -1; l < 3; l++) {
            for (int what = 0; what < 4; what++) {
                int k = l;
                int w = what;
                Check.due("12: clause(0, " + k + ", " + w + ")", () -> x.clause(0, k, w), want[k + 1][w]);
            }
        }
        Check.due("12: a term that it has not", () -> x.clause(1, -1, 2), 0);
        Check.due("12: a term that it has not", () -> x.clause(2, -1, 1), 0);
        Check.due("12: no such clause", () -> x.clause(3, -1, 9), Check.MISSING);
        Check.due("12: no such clause", () -> x.clause(-1, -1, 0), Check.MISSING);
        Check.due("12: no such literal", () -> x.clause(0, 3, 9), Check.MISSING);
        Check.due("12: no such literal", () -> x.clause(0, -2, 0), Check.MISSING);
        Check.due("12: no such literal", () -> x.clause(1, 0, 0), Check.MISSING);
        Check.due("12: what", () -> x.clause(0, 0, 4), Check.ARGUMENT);
        Check.due("12: what", () -> x.clause(0, -1, -1), Check.ARGUMENT);
        Check.due("13: three literals", () -> x.literals(0), 3);
        Check.due("13: none", () -> x.literals(1), 0);
        Check.due("13: no such clause", () -> x.literals(3), Check.MISSING);
        Check.due("13: no such clause", () -> x.literals(-1), Check.MISSING);
    }

    private static void promise14And15() {
        TabledGoals x = Check.told("w(X):-m(X,Y),not w(Y).m(a,b).m(b,c).m(c,d).m(d,e).m(g,g).m(f,g).");
        // e can't move: false from POSSIBLE 0 on; d true in 1; c false in 1; b true in 2; a false in 2; g, f undefined
        int[] value = {0, 2, 0, 2, 0, 1, 1};
        int[] stage = {2, 2, 1, 1, 0, -1, -1};
        for (int c = 0; c < 7; c++) {
            int k = c;
            Check.due("14: value(0, " + k + ", 0)", () -> x.value(0, k, 0), value[k]);
            Check.due("15: stage(0, " + k + ", 0)", () -> x.stage(0, k, 0), stage[k]);
        }
        Check.due("14: a fact", () -> x.value(1, 0, 1), 2);
        Check.due("15: a fact", () -> x.stage(1, 0, 1), 1);
        Check.due("14: no fact", () -> x.value(1, 1, 0), 0);
        Check.due("15: no fact", () -> x.stage(1, 1, 0), 0);
        Check.due("14: no such predicate", () -> x.value(2, 0, 0), Check.MISSING);
        Check.due("14: no such constant", () -> x.value(0, 7, 1), Check.MISSING);
        Check.due("14: a variable", () -> x.value(0, -1, 0), Check.MISSING);
        Check.due("14: a term too many", () -> x.value(0, 0, 1), Check.ARGUMENT);
        Check.due("15: no such predicate", () -> x.stage(-1, 0, 0), Check.MISSING);
        Check.due("15: no such constant", () -> x.stage(1, 0, 7), Check.MISSING);
        Check.due("15: a term too many", () -> x.stage(0, 0, -1), Check.ARGUMENT);
        TabledGoals y = Check.told("p(X):-q(X).");
        Check.due("14: no constants, no atoms", () -> y.value(0, 0, 0), Check.MISSING);
        TabledGoals z = Check.told("p:-q,not r.q:-p.s:-not p.");
        Check.due("14: p and q stand on each other alone", () -> z.value(0, 0, 0), 0);
        Check.due("14: so s is true", () -> z.value(3, 0, 0), 2);
    }

    private static void promise16() {
        TabledGoals x = Check.told(WIN);
        x.ask(1, 0, -1);
        Check.due("16: found", () -> x.find(1, 0, -2), 0);
        Check.due("16: another goal", () -> x.find(1, -1, 0), -1);
        Check.due("16: it is not gone into", () -> x.told(4), 1);
        Check.due("16: no hit", () -> x.told(7), 0);
        x.assume(1, 0, 0);
        Check.due("16: a stale one", () -> x.find(1, 0, -1), 0);
        Check.due("16: still stale", () -> x.table(0, 3), 0);
        Check.due("16: no such predicate", () -> x.find(2, 0, 0), Check.MISSING);
        Check.due("16: no such constant", () -> x.find(0, 4, 0), Check.MISSING);
        Check.due("16: another variable", () -> x.find(0, -3, 0), Check.ARGUMENT);
        Check.due("16: a term too many", () -> x.find(0, 0, 1), Check.ARGUMENT);
    }

    private static void promise17() {
        TabledGoals x = Check.told(WAYS);
        x.ask(0, -1, -1);
        // 0 t(-1,-1) calls 1 e(-1,-1), 2 e(-1,-2), 3 t(b,a) (no: Z told by e), see below
        // t(X,X):-e(X,X): e(-1,-1). t(X,X):-e(X,Z),t(Z,X): e(-1,-2); t(b,a); t(c,b); t(b,c)
        int[] zero = {0, -1, -1, 1, 2, 0, 3, 0, 5, -1, 0, 1, 0};
        for (int what = 0; what < zero.length; what++) {
            int w = what;
            Check.due("17: table(0, " + w + ")", () -> x.table(0, w), zero[w]);
        }
        Check.due("17: e(X,X) has no answers, no nodes", () -> x.table(1, 6), 0);
        Check.due("17: e(X,Y): the empty one, a b c, 3", () -> x.table(2, 6), 7);
        Check.due("17: it was gone into by t(X,X)", () -> x.table(2, 9), 0);
        Check.due("17: t(b,a) is no answer", () -> x.table(3, 4), 0);
        Check.due("17: t(b,a): terms", () -> x.table(3, 1), 1);
        Check.due("17: t(b,a): terms", () -> x.table(3, 2), 0);
        Check.due("17: no such table", () -> x.table(99, 0), Check.MISSING);
        Check.due("17: no such table", () -> x.table(-1, 13), Check.MISSING);
        Check.due("17: what", () -> x.table(0, 13), Check.ARGUMENT);
        Check.due("17: what", () -> x.table(0, -1), Check.ARGUMENT);
        TabledGoals y = Check.told(EVEN);
        y.ask(2, 0, 0);
        Check.due("17: r is undefined", () -> y.table(0, 5), 1);
        Check.due("17: an answer without variables is one node", () -> y.table(0, 6), 1);
        Check.due("17: q is called by p and r", () -> y.table(2, 12), 2);
        Check.due("17: p was gone into by r", () -> y.table(1, 9), 0);
        Check.due("17: q was gone into by p first", () -> y.table(2, 9), 1);
        y.assume(0, 0, 0);
        Check.due("17: as it was when it was made", () -> y.table(0, 5), 1);
        Check.due("17: stale", () -> y.table(2, 3), 0);
        y.ask(1, 0, 0);
        Check.due("17: made anew by an ask, gone into first by p", () -> y.table(2, 9), 1);
        Check.due("17: q is false now", () -> y.table(2, 6), 0);
        Check.due("17: hits stay, and p hits it once more", () -> y.table(2, 10), 2);
    }

    private static void promise17Leader() {
        TabledGoals y = Check.told("r:-p.p:-q.q:-p,s.s:-t.t.");
        y.ask(0, 0, 0);
        // r 0, p 1, q 2, s: q's p is false, so s is not called
        Check.due("17: three tables", () -> y.told(4), 3);
        int[] leaders = {0, 1, 1};
        for (int t = 0; t < 3; t++) {
            int k = t;
            Check.due("17: leader of " + k, () -> y.table(k, 7), leaders[k]);
        }
        y.assume(1, 0, 0);
        y.ask(2, 0, 0);
        Check.due("17: p has calls yet", () -> y.table(1, 8), 1);
        Check.due("17: q calls p and s", () -> y.table(2, 8), 2);
        Check.due("17: the least number of those in the circle", () -> y.table(2, 7), 1);
        TabledGoals z = Check.told("p:-q.q:-g,p.g.");
        z.ask(0, 0, 0);
        Check.due("17: q's leader is p", () -> z.table(1, 7), 0);
        z.retract(2, 0, 0);
        z.ask(1, 0, 0);
        Check.due("17: q does not come to p any more", () -> z.table(1, 7), 1);
        Check.due("17: p is stale and called by none that it comes to", () -> z.table(0, 7), 0);
    }

    private static void promise18() {
        TabledGoals x = Check.told("p:-q,not q.p:-not r,s.q.");
        x.ask(0, 0, 0);
        int[][] want = {{1, 3}, {2, 2}, {3, 1}};
        for (int i = 0; i < 3; i++) {
            int k = i;
            Check.due("18: the table", () -> x.calls(0, k, 0), want[k][0]);
            Check.due("18: how", () -> x.calls(0, k, 1), want[k][1]);
        }
        Check.due("18: not so many", () -> x.calls(0, 3, 0), Check.MISSING);
        Check.due("18: not so many", () -> x.calls(0, -1, 2), Check.MISSING);
        Check.due("18: not so many", () -> x.calls(1, 0, 0), Check.MISSING);
        Check.due("18: no such table", () -> x.calls(4, 0, 0), Check.MISSING);
        Check.due("18: what", () -> x.calls(0, 0, 2), Check.ARGUMENT);
        Check.due("18: what", () -> x.calls(0, 0, -1), Check.ARGUMENT);
        TabledGoals y = Check.told("p:-not q,r.q.");
        y.ask(0, 0, 0);
        Check.due("18: behind what is false nothing is called", () -> y.table(0, 8), 1);
        TabledGoals z = Check.told("p:-not u,r.u:-not u.");
        z.ask(0, 0, 0);
        Check.due("18: behind what is undefined more is called", () -> z.table(0, 8), 2);
    }

    /** Of p(X,X) the head's two variables are one; literals are called as they are by then. */
    private static void promise18Order() {
        TabledGoals x = Check.told("p(X,Y):-q(Y,X),r(Z,X),not q(X,Z).q(a,a).q(b,b).q(a,b).r(b,a).r(a,a).r(b,b).");
        x.ask(0, -2, -2);
        // q(-1,-1); a: r(-1,a); not q(a,a), not q(a,b); b: r(-1,b), not q(b,b)
        int[][] want = {{1, -1, -1, 1}, {2, -1, 0, 1}, {1, 0, 0, 2}, {1, 0, 1, 2}, {2, -1, 1, 1}, {1, 1, 1, 2}};
        for (int i = 0; i < want.length; i++) {
            int k = i;
            Check.due("18: predicate of call " + k, () -> x.table(x.calls(0, k, 0), 0), want[k][0]);
            Check.due("18: first term of call " + k, () -> x.table(x.calls(0, k, 0), 1), want[k][1]);
            Check.due("18: second term of call " + k, () -> x.table(x.calls(0, k, 0), 2), want[k][2]);
            Check.due("18: how call " + k + " is called", () -> x.calls(0, k, 1), want[k][3]);
        }
        Check.due("18: no more", () -> x.table(0, 8), want.length);
        TabledGoals y = Check.told("p(X,X):-q(X).p(a,X):-q(X).p(b,c).q(a).");
        y.ask(0, 0, 1); // p(a,b): the first head is not like it
        Check.due("18: p(a,b) calls q(b) alone", () -> y.table(0, 8), 1);
        Check.due("18: p(a,b) calls q(b)", () -> y.find(1, 1, 0), 1);
        y.ask(0, -1, 1); // p(-1,b): q(b) twice, once counted
        Check.due("18: p(X,b) calls q(b) once", () -> y.table(2, 8), 1);
    }

    private static void promise19() {
        TabledGoals x = Check.told("p(X,Y):-q(Y,X).q(c,a).q(a,b).q(a,c).q(b,b):-not q(b,b).u.");
        x.ask(0, -1, -2);
        // c a b are 0 1 2: q(0,1), q(1,2), q(1,0), q(2,2) undefined: p(0,1), p(1,0), p(2,1), p(2,2)
        int[][] want = {{0, 1, 2}, {1, 0, 2}, {2, 1, 2}, {2, 2, 1}};
        for (int i = 0; i < 4; i++) {
            for (int what = 0; what < 3; what++) {
                int k = i;
                int w = what;
                Check.due("19: answer(0, " + k + ", " + w + ")", () -> x.answer(0, k, w), want[k][w]);
            }
        }
        Check.due("19: not so many", () -> x.answer(0, 4, 0), Check.MISSING);
        Check.due("19: not so many", () -> x.answer(0, -1, 3), Check.MISSING);
        Check.due("19: no such table", () -> x.answer(99, 0, 0), Check.MISSING);
        Check.due("19: what", () -> x.answer(0, 0, 3), Check.ARGUMENT);
        Check.due("19: what", () -> x.answer(0, 0, -1), Check.ARGUMENT);
        int u = x.ask(2, 0, 0);
        Check.due("19: a term that there is not", () -> x.answer(u, 0, 0), 0);
        Check.due("19: a term that there is not", () -> x.answer(u, 0, 1), 0);
        x.retract(2, 0, 0);
        Check.due("19: as it was when it was made", () -> x.answer(u, 0, 2), 2);
        x.ask(2, 0, 0);
        Check.due("19: made anew", () -> x.answer(u, 0, 2), Check.MISSING);
    }

    private static void completedAre(String what, TabledGoals x, int... want) {
        for (int k = 0; k < want.length; k++) {
            int i = k;
            Check.due("20: " + what + ": completed(" + i + ")", () -> x.completed(i), want[i]);
        }
        Check.due("20: " + what + ": no more", () -> x.completed(want.length), -1);
        Check.due("20: " + what + ": below 0", () -> x.completed(-1), -1);
    }

    private static void promise20() {
        TabledGoals x = Check.told("a:-b,c.b:-d,a.c:-e.d.e:-c.a.b.c.");
        x.ask(0, 0, 0);
        // a 0, b 1, d 2, c 3, e 4: d first, a's leader is 0 and waits for c, e
        completedAre("leader by leader", x, 2, 3, 4, 0, 1);
        x.ask(0, 0, 0);
        completedAre("a hit", x);
        x.retract(2, 0, 0);
        x.ask(4, 0, 0);
        completedAre("behind a failed ask", x, 3, 4);
        Check.due("20: a refused ask", () -> x.ask(9, 0, 0), Check.MISSING);
        completedAre("a refused ask leaves them", x, 3, 4);
        x.assume(2, 0, 0);
        completedAre("assume leaves them", x, 3, 4);
        Check.bring(x, "p");
        x.text(1);
        completedAre("a fault leaves them", x, 3, 4);
        Check.bring(x, "p.");
        x.text(2);
        completedAre("none behind text", x);
        x.ask(0, 0, 0);
        completedAre("one", x, 0);
        x.abolish();
        completedAre("none behind abolish", x);
    }

    private static void promise21() {
        TabledGoals x = Check.told("p(X):-q(Y,X),not p(Y).p(b):-t,not u,p(a).p(Z):-v(Z).q(a,b).q(b,a).q(b,b).q(a,c).t.");
        // b a c are 0 1 2; p(a), p(b), p(c) are undefined; u false, v false
        Check.due("21: of p(b): q(a,b), q(b,b), and the second clause", () -> x.condition(0, 0, 0, -1, 99), 3);
        int[][] want = {{0, 1, 1}, {0, 1, 1}, {1, 1, 2}};
        for (int j = 0; j < 3; j++) {
            int k = j;
            Check.due("21: clause of " + k, () -> x.condition(0, 0, 0, k, -2), want[k][0]);
            Check.due("21: delayed of " + k, () -> x.condition(0, 0, 0, k, -1), want[k][1]);
            Check.due("21: place of " + k, () -> x.condition(0, 0, 0, k, 0), want[k][2]);
            Check.due("21: not so many delayed", () -> x.condition(0, 0, 0, k, 1), Check.MISSING);
            Check.due("21: not so many delayed", () -> x.condition(0, 0, 0, k, -3), Check.MISSING);
        }
        Check.due("21: not so many", () -> x.condition(0, 0, 0, 3, -1), Check.MISSING);
        Check.due("21: not so many", () -> x.condition(0, 0, 0, -2, -1), Check.MISSING);
        Check.due("21: a true one", () -> x.condition(2, 0, 0, -1, 0), Check.MISSING);
        Check.due("21: IllegalArgumentException ahead of that", () -> x.condition(2, 1, 0, -1, 0), Check.ARGUMENT);
        Check.due("21: no such constant", () -> x.condition(0, 3, 0, -1, 0), Check.MISSING);
        Check.due("21: a term too many", () -> x.condition(0, 1, 1, -1, 0), Check.ARGUMENT);
        TabledGoals y = Check.told("p(X):-r(Z,Y),p(X),not s(Y,Z).p(a):-not p(a).r(a,b).r(b,a).r(b,b).s(a,b):-not s(a,b).");
        // Z, Y: (a,b), (b,a), (b,b); s(b,a) false, s(a,b) undefined, s(b,b) false; p(a) undefined
        Check.due("21: three and one", () -> y.condition(0, 0, 0, -1, -1), 4);
        Check.due("21: (a,b): s(b,a) is false", () -> y.condition(0, 0, 0, 0, -1), 1);
        Check.due("21: (b,a): s(a,b) is undefined", () -> y.condition(0, 0, 0, 1, -1), 2);
        Check.due("21: its second", () -> y.condition(0, 0, 0, 1, 1), 2);
        Check.due("21: (b,b)", () -> y.condition(0, 0, 0, 2, -1), 1);
        Check.due("21: the second clause", () -> y.condition(0, 0, 0, 3, -2), 1);
        y.assume(0, 0, 0);
        Check.due("21: as it is now", () -> y.condition(0, 0, 0, -1, 0), Check.MISSING);
    }

    private static void promise22() {
        TabledGoals x = Check.told(WAYS);
        Check.due("22: e(a,b) calls none", () -> x.reach(1, 0, 1), 1);
        // t(a,-1): e(a,-1), t(b,-1), e(b,-1), t(c,-1), e(c,-1)
        Check.due("22: t(a,X)", () -> x.reach(0, 0, -1), 6);
        Check.due("22: nothing is made", () -> x.told(4), 0);
        x.ask(0, 0, -1);
        int hits = x.told(7);
        x.assume(1, 0, 0);
        Check.due("22: t(a,X) calls itself now", () -> x.reach(0, 0, -2), 6);
        x.retract(1, 0, 1);
        Check.due("22: now, whatever the tables say", () -> x.reach(0, 0, -1), 2);
        Check.due("22: hits stay", () -> x.told(7), hits);
        Check.due("22: no such predicate", () -> x.reach(3, 0, 0), Check.MISSING);
        Check.due("22: no such constant", () -> x.reach(0, 0, 3), Check.MISSING);
        Check.due("22: another variable", () -> x.reach(0, 0, -3), Check.ARGUMENT);
        Check.due("22: a term too many", () -> x.reach(2, 0, 1), Check.ARGUMENT);
    }

    private static void promise23() {
        TabledGoals x = Check.told(WIN);
        Check.due("23: no tables", x::print, 0);
        x.ask(1, 1, -1);
        // m(b,-1): predicate 1, 2 true ones, none undefined
        Check.due("23: one table", x::print, 31L * (31 * 1 + 2));
        x.ask(0, 3, 0);
        // w(d): 0, 0, 0; m(d,-1): 1, 0, 0
        long want = 31L * (31 * 1 + 2);
        want = want * 31 * 31 * 31;
        want = ((want * 31 + 1) * 31) * 31;
        Check.due("23: three tables", x::print, want);
        x.assume(1, 1, 1);
        Check.due("23: stale ones as they were", x::print, want);
        TabledGoals y = Check.told(EVEN);
        y.ask(2, 0, 0);
        // r, p, q: 2 0 1, 0 0 1, 1 0 1
        long sum = 0;
        int[] rows = {2, 0, 1, 0, 0, 1, 1, 0, 1};
        for (int n : rows) {
            sum = 31 * sum + n;
        }
        Check.due("23: undefined ones", y::print, sum);
        TabledGoals z = Check.told("p(X):-not q,r(X).q.r(a).r(b).r(c).r(d).");
        for (int c = 0; c < 4; c++) {
            z.ask(2, c, 0);
        }
        sum = 0;
        for (int c = 0; c < 4; c++) {
            sum = ((sum * 31 + 2) * 31 + 1) * 31;
        }
        Check.due("23: it goes on beyond a long", z::print, sum);
    }

    private static void promise24() {
        TabledGoals x = Check.told(WIN);
        Check.due("24: none", () -> x.status(0), 0);
        Check.due("24: none", () -> x.status(1), 0);
        Check.due("24: none", () -> x.status(2), 0);
        Check.due("24: others", () -> x.status(3), -1);
        Check.due("24: others", () -> x.status(-1), -1);
        Check.due("a refusal", () -> x.value(9, 0, 0), Check.MISSING);
        Check.due("a refusal", () -> x.literals(9), Check.MISSING);
        Check.due("a refusal", () -> x.told(99), Check.ARGUMENT);
        Check.due("24: two", () -> x.status(0), 2);
        Check.due("24: one", () -> x.status(1), 1);
        Check.due("a refusal", () -> x.text(1), Check.ARGUMENT);
        Check.due("24: two", () -> x.status(1), 2);
        x.feed(0, 0, 0, 0, 0);
        Check.due("a fault is no refusal", () -> x.text(1), -9);
        Check.due("no refusal either", () -> x.completed(99), -1);
        Check.due("no refusal either", () -> x.retract(0, 0, 0), -1);
        Check.due("24: text, abolish leave them", () -> x.text(0) + x.abolish(), 0);
        Check.due("24: two", () -> x.status(0), 2);
        Check.due("24: two", () -> x.status(1), 2);
        Check.due("24: none", () -> x.status(2), 0);
    }
}
