/** Texts: what may stand in them, and each fault at its place. */
public final class Faults {
    public static void main(String[] args) {
        right();
        cannotStand();
        endsTooEarly();
        longNames();
        tooMany();
        tooManyClausesAndLiterals();
        otherTerms();
        notSafe();
        firstFromTheLeft();
        moreOnTheTape();
        fullTape();
        Check.end();
    }

    private static void told(String text, int answer, int place) {
        TabledGoals x = new TabledGoals();
        Check.bring(x, text);
        Check.due("text(\"" + text + "\")", () -> x.text(text.length()), answer);
        Check.due("fault() of \"" + text + "\"", x::fault, place);
    }

    private static void right(String text, int clauses) {
        told(text, clauses, -1);
    }

    private static String times(String part, int n) {
        return part.repeat(n);
    }

    private static void right() {
        right("", 0);
        right("   ", 0);
        right("p.", 1);
        right("  p  (  a  ,  b  )  :-  q  ,  not  r  .  ", 1);
        right("p:-notp.", 1);
        right("p:-nota,no,n.", 1);
        right("p(X):-q(X),not p(X).", 1);
        right("p:-not p.", 1);
        right("p:-not p(a),q." .replace("p:-", "r:-"), 1);
        right("p(p):-q(p).", 1);
        right("abcdefgh(ijklmnop).", 1);
        right("p:-q(A),q(Z),q(M).p:-q(B),q(C),q(D).", 2);
        right("p:-q,q,q,q,q,q.", 1);
        right(times("p.", 60), 60);
        right(times("p.", 60) + "    ", 60);
        right("a.b.c.d.e.f.g.h.i.j.a.", 11);
        right("p(a,b).p(c,d).p(e,f).p(g,h).p(h,a).", 5);
        right("p(X,Y):-q(X,Z),not r(Z),q(Z,Y).", 1);
    }

    private static void cannotStand() {
        told("not.", -9, 0);
        told("p(not).", -9, 2);
        told("p:-not not.", -9, 7);
        told("p:-not.", -9, 6);
        told("p:-not(a).", -9, 6);
        told("p:-not X.", -9, 7);
        told("p:-q,,r.", -9, 5);
        told("p:-q,.", -9, 5);
        told("p:-.", -9, 3);
        told("p::-q.", -9, 1);
        told("p:q.", -9, 1);
        told("p: -q.", -9, 1);
        told("p:-q:-r.", -9, 4);
        told("p-q.", -9, 1);
        told("p q.", -9, 2);
        told("X.", -9, 0);
        told("pX.", -9, 1);
        told("p().", -9, 2);
        told("p(a,).", -9, 4);
        told("p(a,b,c).", -9, 5);
        told("p(a b).", -9, 4);
        told("p(Xa).", -9, 3);
        told("p(XY).", -9, 3);
        told("p(aX).", -9, 3);
        told("p(a).)", -9, 5);
        told("p..", -9, 2);
        told("p.,q.", -9, 2);
        told("p\t.", -9, 1);
        told("p\n.", -9, 1);
        told("p.\0", -9, 2);
        told("p(a)(b).", -9, 4);
        told("p1.", -9, 1);
        told("p.\u00e9.", -9, 2);
    }

    private static void endsTooEarly() {
        told("p", -9, 1);
        told("p  ", -9, 3);
        told("p(", -9, 2);
        told("p(a", -9, 3);
        told("p(a ", -9, 4);
        told("p(a,", -9, 4);
        told("p(a)", -9, 4);
        told("p:", -9, 1);
        told("p :", -9, 2);
        told("p:-", -9, 3);
        told("p:-not", -9, 6);
        told("p:-not ", -9, 7);
        told("p:-q", -9, 4);
        told("p:-q,", -9, 5);
        told("p(X", -9, 3);
        told("p(X)", -9, 4);
    }

    private static void longNames() {
        told("abcdefghi.", -8, 0);
        told("  abcdefghi", -8, 2);
        told("p(abcdefghi).", -8, 2);
        told("p:-q, abcdefghi.", -8, 6);
        told("p:-notabcdef.", -8, 3);
        told("p:-not abcdefghi.", -8, 7);
        told("p:-notnotno.", 1, -1);
    }

    private static void tooMany() {
        told("a.b.c.d.e.f.g.h.i.j.k.", -7, 20);
        told("a.b.c.d.e.f.g.h.i.j:-a,kk(X,.", -7, 23);
        told("a.b.c.d.e.f.g.h.i.j:-not k.", -7, 25);
        told("a.b.c.d.e.f.g.h.i.j.abcdefghi.", -8, 20);
        told("p(a,b).p(c,d).p(e,f).p(g,h).p(a,i).", -7, 32);
        told("p(a,b).p(c,d).p(e,f).p(g,h).p(a,abcdefghi).", -8, 32);
        told("p:-q(A,B),q(C,D).", -7, 14);
        told("p:-q(A,B),q(C,A),not q(D,A).", -7, 23);
        told("p(A,B):-q(C,D).", -7, 12);
        told("p(A,B):-q(A,C),r(D,A).", -7, 17);
    }

    private static void tooManyClausesAndLiterals() {
        told(times("p.", 60) + " p.", -7, 121);
        told(times("p.", 60) + "not.", -7, 120);
        told(times("p.", 60) + "abcdefghi.", -7, 120);
        told(times("p.", 60) + "p", -7, 120);
        told(times("p.", 60) + " X.", -9, 121);
        told(times("p.", 60) + ".", -9, 120);
        told("p:-q,q,q,q,q,q, q.", -7, 16);
        told("p:-q,q,q,q,q,q,not q.", -7, 15);
        told("p:-q,q,q,q,q,q,abcdefghi.", -7, 15);
        told("p:-q,q,q,q,q,q,not", -7, 15);
        told("p:-q,q,q,q,q,q,X.", -9, 15);
        told("p:-q,q,q,q,q,q,", -9, 15);
        told("p:-q,q,q,q,q,q,.", -9, 15);
    }

    private static void otherTerms() {
        told("p(a).p(a,b).", -6, 5);
        told("p. p(a).", -6, 3);
        told("p(a):-p.", -6, 6);
        told("p(a):-q,not q(a).", -6, 12);
        told("p(a).p x.", -6, 5);
        told("p(a).p", -6, 5);
        told("p(a).p(a,b", -9, 10);
        told("p(a).p(a,b,c).", -9, 10);
        told("p(a).p(a,abcdefghi).", -8, 9);
        told("p(a).p(a,X).", -6, 5);
        told("p(a).q(b):-not p(X,a).", -5, 17);
    }

    private static void notSafe() {
        told("p(X).", -5, 2);
        told("p( X , a).", -5, 3);
        told("p(a,Y).", -5, 4);
        told("p(X,Y):-q(Y).", -5, 2);
        told("p(X,Y):-q(X).", -5, 4);
        told("p(X,X):-q(a).", -5, 2);
        told("p(X):-not q(X).", -5, 12);
        told("p(X):-not q(X),r(X).", -5, 12);
        told("p(a):-r(Y),not q(Y,X).", -5, 19);
        told("p:-q(X).p:-not q(X).", -5, 17);
        told("p(X):-q(a)", -9, 10);
        told("p(X):-q(a),", -9, 11);
        told("p(X):-q(X),not r(X).", 1, -1);
    }

    /** What is on the tape behind the text does not tell anything. */
    private static void part(String tape, int n, int answer, int place) {
        TabledGoals x = new TabledGoals();
        Check.bring(x, tape);
        Check.due("text(" + n + ") of \"" + tape + "\"", () -> x.text(n), answer);
        Check.due("fault() of " + n + " bytes of \"" + tape + "\"", x::fault, place);
    }

    private static void moreOnTheTape() {
        part("p:-q.", 2, -9, 1);
        part("p:-q.", 3, -9, 3);
        part("p     .", 3, -9, 3);
        part("p.     ", 3, 1, -1);
        part("p.abcdefghi.", 10, -9, 10);
        part("p:-not q.", 6, -9, 6);
        part("p:-notq.r", 6, -9, 6);
        part("p(a).", 0, 0, -1);
    }

    private static void fullTape() {
        told(" ".repeat(400), 0, -1);
        told(" ".repeat(399) + "p", -9, 400);
        told(" ".repeat(398) + "p.", 1, -1);
        told(" ".repeat(398) + "p:", -9, 399);
        told(" ".repeat(397) + "p:-", -9, 400);
        told(" ".repeat(394) + "p:-not", -9, 400);
        told(" ".repeat(395) + "p:-no", -9, 400);
        told(" ".repeat(391) + "abcdefghi", -8, 391);
        told(" ".repeat(392) + "abcdefgh", -9, 400);
        told(" ".repeat(398) + "p(", -9, 400);
        told(" ".repeat(397) + "p(X", -9, 400);
    }

    private static void firstFromTheLeft() {
        told("p(X).q(", -5, 2);
        told("p(X)q(", -9, 4);
        told("p(abcdefghi,X", -8, 2);
        told("p:-not q(X),abcdefghi.", -5, 9);
        told("p(X):-abcdefghi.", -8, 6);
        told("p(X):-q.p(a,b).", -5, 2);
    }
}
