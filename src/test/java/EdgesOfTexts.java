/** Edges of what a text may be, byte by byte, and of each fault with its place. */
public final class EdgesOfTexts {
    private static final String SMALL = "abcdefghijklmnopqrstuvwxyz";
    private static final String CAPITAL = "ABCDEFGHIJKLMNOPQRSTUVWXYZ";
    private static final String SIXTY = "p.".repeat(60);
    private static final String SIX = "p:-q,q,q,q,q,q,";

    public static void main(String[] args) {
        fourHundredBytes();
        clauses();
        eachByteOfAHead();
        eachByteOfABody();
        eachByteOfTerms();
        atoms();
        names();
        blanks();
        blanksNowhereElse();
        firstFromTheLeft();
        endsTooEarly();
        colons();
        longNames();
        tooManyNames();
        tooManyClauses();
        tooManyLiterals();
        tooManyVariables();
        otherTerms();
        notSafeByNot();
        notSafeHead();
        Check.end();
    }

    private static void fourHundredBytes() {
        Edge e = new Edge("A TEXT has up to 400 bytes: { CLAUSE }");
        String facts = "q(ab,b).".repeat(49);
        e.right(facts + "abcdefg.", 50);
        e.text(facts + "abcdefgh", -9, 400);
        e.text(facts + "abcde:-f", -9, 400);
        e.text(facts + "abcdefg:", -9, 399);
        e.text(facts + "       )", -9, 399);
        e.right(facts + "        ", 49);
        e.right(" ".repeat(400), 0);
        e.right(" ".repeat(398) + "p.", 1);
        TabledGoals x = new TabledGoals();
        Check.bring(x, facts + "abcdefg.");
        e.argument("401 bytes", () -> x.text(401));
        e.due("399 bytes", () -> x.text(399), -9);
        e.due("399 bytes end too early", x::fault, 399);
    }

    private static void clauses() {
        Edge e = new Edge("{ CLAUSE }: ATOM [ \":-\" [ \"not\" ] ATOM { \",\" [ \"not\" ] ATOM } ] \".\"");
        e.right("", 0);
        e.right("p.", 1);
        e.right("p.q:-r.s:-not t.u:-v,not w.x:-not y,p.", 5);
        e.text("p", -9, 1);
        e.text("p:-", -9, 3);
        e.text("p:-.", -9, 3);
        e.text("p,q.", -9, 1);
        e.text("p:-not not q.", -9, 7);
        e.text("p:-q:-r.", -9, 4);
        e.text("not p.", -9, 0);
        e.text("p:-q,.", -9, 5);
        e.text("p..", -9, 2);
    }

    /**
     * Behind the start of a text each byte that may stand there is told with an ending that makes the text right
     * ('@' in it is the byte again); any other byte is a fault at its place.
     */
    private static void eachByte(Edge e, String start, String... mayStand) {
        String[] endings = new String[256];
        for (String pair : mayStand) {
            int cut = pair.indexOf('|');
            for (char c : pair.substring(0, cut).toCharArray()) {
                endings[c] = pair.substring(cut + 1).replace('@', c);
            }
        }
        for (int b = 0; b < 256; b++) {
            String text = start + (char) b;
            if (endings[b] == null) {
                e.text(text, -9, start.length());
                e.text(text + "q.", -9, start.length());
            } else {
                TabledGoals x = new TabledGoals();
                String whole = text + endings[b];
                Check.bring(x, whole);
                e.due("\"" + whole + "\" is right", () -> x.text(whole.length()) >= 0 ? 1 : 0, 1);
            }
        }
    }

    private static void eachByteOfAHead() {
        Edge e = new Edge("1 what can't stand there");
        eachByte(e, "", " |", SMALL + "|.");
        eachByte(e, " ", " |", SMALL + "|.");
        eachByte(e, "p", SMALL + "|.", " |.", "(|a).", ":|-q.", ".|");
        eachByte(e, "p ", " |.", "(|a).", ":|-q.", ".|");
        eachByte(e, "p(", " |a).", SMALL + "|).", CAPITAL + "|):-q(@).");
        eachByte(e, "p(a)", " |.", ":|-q.", ".|");
        eachByte(e, "p.", " |", SMALL + "|.");
        eachByte(e, "p:-q.", " |", SMALL + "|.");
    }

    private static void eachByteOfABody() {
        Edge e = new Edge("1 what can't stand there");
        eachByte(e, "p:-", " |q.", SMALL + "|.");
        eachByte(e, "p:-not", SMALL + "|.", " |q.");
        eachByte(e, "p:-not ", SMALL + "|.", " |q.");
        eachByte(e, "p:-q", SMALL + "|.", " |.", "(|a).", ",|r.", ".|");
        eachByte(e, "p:-q ", " |.", "(|a).", ",|r.", ".|");
        eachByte(e, "p:-not q", SMALL + "|.", " |.", "(|a).", ",|r.", ".|");
        eachByte(e, "p:-q,", " |r.", SMALL + "|.");
        eachByte(e, "p:-q(a)", " |.", ",|r.", ".|");
    }

    private static void eachByteOfTerms() {
        Edge e = new Edge("1 what can't stand there");
        eachByte(e, "p:-q(", " |a).", SMALL + "|).", CAPITAL + "|).");
        eachByte(e, "p:-q(a", SMALL + "|).", " |).", ",|b).", ")|.");
        eachByte(e, "p:-q(a ", " |).", ",|b).", ")|.");
        eachByte(e, "p:-q(X", " |).", ",|b).", ")|.");
        eachByte(e, "p:-q(a,", " |b).", SMALL + "|).", CAPITAL + "|).");
        eachByte(e, "p:-q(a,b", SMALL + "|).", " |).", ")|.");
        eachByte(e, "p:-q(a,X", " |).", ")|.");
        eachByte(e, "p:-q(a,b ", " |).", ")|.");
    }

    private static void atoms() {
        Edge e = new Edge("ATOM: NAME [ \"(\" TERM [ \",\" TERM ] \")\" ]; TERM: NAME, or one capital letter (a VARIABLE)");
        e.right("p:-a,b(c),d(e,f),g(A),h(A,Z),i(a,M).", 1);
        e.text("p:-q().", -9, 5);
        e.text("p:-q(a,).", -9, 7);
        e.text("p:-q(,a).", -9, 5);
        e.text("p:-q(a,b,c).", -9, 8);
        e.text("p:-q(XY).", -9, 6);
        e.text("p:-q(Xa).", -9, 6);
        e.text("p:-q(aX).", -9, 6);
        e.text("p:-q(not).", -9, 5);
        e.text("p:-q(a(b)).", -9, 6);
        e.text("P.", -9, 0);
        e.text("p:-Q.", -9, 3);
    }

    private static void names() {
        Edge e = new Edge("NAME: 1 to 8 small letters, but not \"not\".");
        e.right("a.z.abcdefgh.stuvwxyz(abcdefgh,stuvwxyz).", 4);
        e.right("no.n.nota.nott.nnot.on(no,nots):-notnotno.", 6);
        e.text("not.", -9, 0);
        e.text("p(not).", -9, 2);
        e.text("p(a,not).", -9, 4);
        e.text("not", -9, 0);
        e.text("p(not", -9, 2);
        e.text("p:-not not", -9, 7);
        e.text("p:-not.", -9, 6);
        e.text("p:-not not.", -9, 7);
        e.text("abcdefghi.", -8, 0);
        e.text("p(abcdefghi).", -8, 2);
        e.text("p(a,abcdefghi).", -8, 4);
        e.text("p:-abcdefghi.", -8, 3);
        e.text("p:-not abcdefghi.", -8, 7);
        TabledGoals x = Check.told("abcdefgh(stuvwxyz):-abcdefg.abcdefg.");
        e.due("names with like beginnings are unlike", () -> x.told(0), 2);
        e.due("eight letters", () -> x.predicate(0, 3), 8);
        e.due("the eighth letter", () -> x.nameAt(0, 0, 7), 'h');
        e.due("the eighth letter of a constant", () -> x.nameAt(1, 0, 7), 'z');
    }

    private static void blanks() {
        Edge e = new Edge("Blanks (32) may stand ahead of all these and at the end.");
        String[] parts = {"p", "(", "a", ",", "X", ")", ":-", "not", " q", "(", "b", ")", ",", "r", "(", "X", ")", ".", "s", "."};
        for (int at = 0; at <= parts.length; at++) {
            for (int many = 1; many <= 3; many++) {
                StringBuilder b = new StringBuilder();
                for (int i = 0; i < parts.length; i++) {
                    b.append(i == at ? " ".repeat(many) : "").append(parts[i]);
                }
                b.append(at == parts.length ? " ".repeat(many) : "");
                e.right(b.toString(), 2);
            }
        }
        e.right(" " + String.join(" ", parts) + " ", 2);
        e.text("   X", -9, 3);
        e.text("   ,", -9, 3);
        e.text("p   ", -9, 4);
    }

    private static void blanksNowhereElse() {
        Edge e = new Edge("Blanks (32) may stand");
        e.text("p: -q.", -9, 1);
        e.text("p q.", -9, 2);
        e.text("p:-q r.", -9, 5);
        e.text("p(a b).", -9, 4);
        e.text("p:-no t q.", -9, 6);
        int[] others = {0, 9, 10, 11, 12, 13, 31, 33, 127, 128, 160, 255};
        for (int b : others) {
            e.text("p" + (char) b + ".", -9, 1);
            e.text((char) b + "p.", -9, 0);
            e.text("p." + (char) b, -9, 2);
            e.text("p:-" + (char) b + "q.", -9, 3);
        }
    }

    private static void firstFromTheLeft() {
        Edge e = new Edge("FAULTS, the first from the left, at its first byte");
        e.text("p(X).q(", -5, 2);
        e.text("q(.p(X).", -9, 2);
        e.text("abcdefghi.p(X).", -8, 0);
        e.text("p(X).abcdefghi.", -5, 2);
        e.text("p(a).p.q(X).", -6, 5);
        e.text("q(X).p(a).p.", -5, 2);
        e.text("p:-q(A,B),q(C,D),q.", -7, 14);
        e.text("p:-q(A,B),q,q(C,D).", -6, 10);
        e.text("p:-not q(X),r(.", -5, 9);
        e.text("p:-r(,not q(X).", -9, 5);
    }

    /** Cut anywhere, a text ends too early, but behind a clause; right behind a ":" the fault is at that. */
    private static void endsTooEarly() {
        Edge e = new Edge("(at the length, if the text ends too early");
        String whole = "p(a,X) :- qr(X,bc), not s(X) , tu. v(a). w :- not xy.  z.";
        for (int n = 0; n <= whole.length(); n++) {
            String cut = whole.substring(0, n);
            String bare = cut.stripTrailing();
            boolean right = bare.isEmpty() || bare.endsWith(".");
            int answer = right ? (int) bare.chars().filter(c -> c == '.').count() : -9;
            int early = bare.endsWith(":") ? bare.length() - 1 : n;
            e.text(cut, answer, right ? -1 : early);
            TabledGoals x = new TabledGoals();
            Check.bring(x, whole);
            int length = n;
            e.due("the first " + n + " bytes alone", () -> x.text(length), answer);
            e.due("their fault", x::fault, right ? -1 : early);
        }
    }

    private static void colons() {
        Edge e = new Edge("a \":\" with no \"-\" right behind it: at it)");
        e.text("p:", -9, 1);
        e.text("p: ", -9, 1);
        e.text("p: -q.", -9, 1);
        e.text("p:q.", -9, 1);
        e.text("p::-q.", -9, 1);
        e.text("p  :.", -9, 3);
        e.text("p(a) :,-", -9, 5);
        e.text("p:-:", -9, 3);
        e.text("p:--q.", -9, 3);
        e.text("p:-q:", -9, 4);
        e.text(":-q.", -9, 0);
        e.text("p-q.", -9, 1);
        TabledGoals x = new TabledGoals();
        Check.bring(x, "p:-q.");
        e.due("the \"-\" is behind the text", () -> x.text(2), -9);
        e.due("the \"-\" is behind the text", x::fault, 1);
    }

    private static void longNames() {
        Edge e = new Edge("2 a NAME of more than 8 letters");
        for (int n = 7; n <= 26; n++) {
            String name = SMALL.substring(0, n);
            e.text(name + ".", n <= 8 ? 1 : -8, n <= 8 ? -1 : 0);
            e.text("  p(" + name + ").", n <= 8 ? 1 : -8, n <= 8 ? -1 : 4);
            e.text("p:-not  " + name, n <= 8 ? -9 : -8, n <= 8 ? 8 + n : 8);
        }
        e.text("notnotnot.", -8, 0);
        e.text("p:-notnotnot.", -8, 3);
        e.text("a".repeat(400), -8, 0);
        e.text("p(" + "a".repeat(398), -8, 2);
        e.text("a.b.c.d.e.f.g.h.i.j.abcdefghi.", -8, 20);
    }

    private static void tooManyNames() {
        Edge e = new Edge("3 one too many: an 11th PREDICATE, a 9th CONSTANT");
        String ten = "a.b.c.d.e.f.g.h.i:-j.";
        e.right(ten + "j:-i.", 10);
        e.text(ten + " k.", -7, 22);
        e.text(ten + "j:-k(X.", -7, 24);
        e.text(ten + "j:-not k.", -7, 28);
        e.text(ten + "k", -7, 21);
        e.text(ten + "k:", -7, 21);
        String eight = "p(a,b).p(c,d).p(e,f).p(g,h).";
        e.right(eight + "p(h,a).", 5);
        e.text(eight + "p( i,a).", -7, 31);
        e.text(eight + "p(a, i).", -7, 33);
        e.text(eight + "p(i", -7, 30);
        e.text(eight + "q:-p(X,i", -7, 35);
        e.text(eight + "q:-not p(a,i).", -7, 39);
    }

    private static void tooManyClauses() {
        Edge e = new Edge("a 61st CLAUSE, a 7th LITERAL (both at the first byte of small letters with which it begins; what begins none is 1)");
        e.right(SIXTY, 60);
        e.right(SIXTY + "   ", 60);
        e.right("p.".repeat(59) + "p:-q.", 60);
        e.text(SIXTY + "p.", -7, 120);
        e.text(SIXTY + "   p", -7, 123);
        e.text(SIXTY + "abcdefghi", -7, 120);
        e.text(SIXTY + "p(", -7, 120);
        e.text(SIXTY + "not.", -7, 120);
        e.text(SIXTY + "X.", -9, 120);
        e.text(SIXTY + " .", -9, 121);
        e.text(SIXTY + ":-p.", -9, 120);
        e.text(SIXTY + "\0", -9, 120);
    }

    private static void tooManyLiterals() {
        Edge e = new Edge("a 7th LITERAL (both at the first byte of small letters with which it begins; what begins none is 1)");
        e.right("p:-q,q,q,q,q,q.", 1);
        e.text(SIX + "q.", -7, 15);
        e.text(SIX + "  q", -7, 17);
        e.text(SIX + "not q.", -7, 15);
        e.text(SIX + "not", -7, 15);
        e.text(SIX + "abcdefghi", -7, 15);
        e.text(SIX + "q(", -7, 15);
        e.text(SIX + "X.", -9, 15);
        e.text(SIX + "  .", -9, 17);
        e.text(SIX, -9, 15);
        e.text(SIX + " ", -9, 16);
    }

    private static void tooManyVariables() {
        Edge e = new Edge("what begins none is 1), a 4th VARIABLE");
        e.right("p:-q(A,B),q(C,A),q(B,C).", 1);
        e.text("p:-q(A,B),q(C, D).", -7, 15);
        e.text("p:-q(A,B),q(C,A),q(D,A).", -7, 19);
        e.text("p(A,B):-q(C,D", -7, 12);
        e.text("p:-q(A,B),q(A,C),r(D", -7, 19);
        e.right("p:-q(A,B),q(C,A).p:-q(D,E),q(F,D).", 2);
        e.text("p:-q(A,B),q(C,A).p:-q(D,E),q(F,D).p:-q(G,H),q(I,J).", -7, 48);
    }

    private static void otherTerms() {
        Edge e = new Edge("4 a PREDICATE with another number of TERMS than ahead (at its NAME, behind its TERMS)");
        String[] forms = {"p", "p(a)", "p(a,b)"};
        for (int first = 0; first < 3; first++) {
            for (int then = 0; then < 3; then++) {
                boolean like = first == then;
                int at = forms[first].length() + 1;
                e.text(forms[first] + "." + forms[then] + ".", like ? 2 : -6, like ? -1 : at);
                e.text(forms[first] + ":-" + forms[then] + ".", like ? 1 : -6, like ? -1 : at + 1);
                e.text(forms[first] + ":-not  " + forms[then] + ".", like ? 1 : -6, like ? -1 : at + 6);
                e.text(forms[first] + ".q:-" + forms[then] + "!", like ? -9 : -6, like ? at + 3 + forms[then].length() : at + 3);
            }
        }
        e.text("p(a).p(a,b", -9, 10);
        e.text("p(a).p(a,b,c).", -9, 10);
        e.text("p(a).p(", -9, 7);
        e.text("p(a).p(a,abcdefghi).", -8, 9);
        e.text("p(a).q:-p(X,Y),not r(Z).", -6, 8);
        e.text("p(a).q:-r(X,Y),s(Z),p(Z,W).", -7, 24);
        e.text("p(a).p(X,Y).", -6, 5);
        e.text("q(p).q(p,p).", -6, 5);
        e.right("q(p).p.", 2);
    }

    private static void notSafeByNot() {
        Edge e = new Edge("5 not SAFE: a VARIABLE of a LITERAL by NOT (at it, behind 3)");
        e.text("p:-not q(X).", -5, 9);
        e.text("p:-not q( X ).", -5, 10);
        e.text("p:-not q(a,X).", -5, 11);
        e.text("p:-not q(X", -5, 9);
        e.text("p:-r(Y),not q(Y,X).", -5, 16);
        e.text("p:-r(A),r(B),r(C),not q(D).", -7, 24);
        e.text("p(A,B):-r(C),not q(D).", -7, 19);
        e.text("p(A,B):-r(C),not q(A).", -5, 19);
        e.text("q(a).p:-not q(X,a).", -5, 14);
        e.text("p:-r(A),not q(A,b),not q(b,B),r(B).", -5, 27);
    }

    private static void notSafeHead() {
        Edge e = new Edge("of the HEAD (the first such, behind the CLAUSE's \".\")");
        e.text("p(X).", -5, 2);
        e.text("p(  X).", -5, 4);
        e.text("p(a,X).", -5, 4);
        e.text("p(X,Y).", -5, 2);
        e.text("p(X,X).", -5, 2);
        e.text("p(X,Y):-q(Y).", -5, 2);
        e.text("p(X,Y):-q(X).", -5, 4);
        e.text("p(X)", -9, 4);
        e.text("p(X):-q", -9, 7);
        e.text("p(X):-q,", -9, 8);
        e.text("p(X):-abcdefghi.", -8, 6);
        e.text("p(X):-q(a),not q(Y).", -5, 17);
        e.text("p(X):-q,q,q,q,q,q,q.", -7, 18);
        e.text("p(X):-p.", -6, 6);
        e.text("p(X).p(X", -5, 2);
        e.right("p(X):-q(X).", 1);
    }
}
