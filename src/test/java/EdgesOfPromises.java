import java.math.BigInteger;

/** Edges of the promises, sentence by sentence: the last number that is allowed, the first that is not, empty and full. */
public final class EdgesOfPromises {
    private static final String ALL_EIGHT = "k(a).k(b).k(c).k(d).k(e).k(f).k(g).k(h).";
    /** p: 0, q: 1; p and q undefined. */
    private static final String EVEN = "p:-not q.q:-not p.";

    public static void main(String[] args) {
        newObject();
        feedTwenty();
        feedFull();
        textTells();
        textAnew();
        textFaults();
        textRefused();
        faultPlace();
        assumeComes();
        assumeNone();
        assumeRefused();
        assumeFull();
        retractGoes();
        retractNone();
        comeAndGo();
        modelIsNew();
        askEdges();
        abolishEdges();
        toldEdges();
        toldMade();
        predicateEdges();
        nameEdges();
        clauseEdges();
        literalsEdges();
        valueAndStage();
        findEdges();
        tableEdges();
        tableFirst();
        tableCallers();
        callsEdges();
        answerEdges();
        completedEdges();
        conditionEdges();
        reachEdges();
        printWraps();
        statusEdges();
        numbersThatAreNot();
        lastCall();
        Check.end();
    }

    private static void newObject() {
        Edge e = new Edge("`TabledGoals()`: No CLAUSES, no TABLES.");
        TabledGoals x = new TabledGoals();
        for (int what = 0; what <= 11; what++) {
            int w = what;
            e.due("told(" + w + ")", () -> x.told(w), 0);
        }
        e.due("no fault", x::fault, -1);
        e.due("nothing completed", () -> x.completed(0), -1);
        e.due("print()", x::print, 0);
        e.due("abolish()", x::abolish, 0);
        e.missing("no clause", () -> x.literals(0));
        e.missing("no table", () -> x.table(0, 3));
        e.missing("no predicate", () -> x.ask(0, 0, 0));
        e.missing("no constant", () -> x.nameAt(1, 0, 0));
        e.due("all four refusals are counted", () -> x.status(0), 4);
        e.due("none else", () -> x.status(1) + x.status(2), 0);
    }

    private static void feedTwenty() {
        Edge e = new Edge("Twenty bytes come on the TAPE, of each number the highest first: how many there are");
        TabledGoals x = new TabledGoals();
        e.due("the first twenty", () -> x.feed(0x61626364, 0x65666768, 0x2E696A6B, 0x6C6D6E6F, 0x702E712E), 20);
        e.due("twenty more", () -> x.feed(0x722E732E, 0x20202020, 0x20202020, 0x20202020, 0x2020742E), 40);
        e.due("bytes of the tape", () -> x.told(11), 40);
        e.due("all of them are right", () -> x.text(40), 6);
        String[] names = {"abcdefgh", "ijklmnop", "q", "r", "s", "t"};
        for (int p = 0; p < names.length; p++) {
            for (int i = 0; i < names[p].length(); i++) {
                int k = p;
                int n = i;
                e.due("letter " + n + " of " + k, () -> x.nameAt(0, k, n), names[k].charAt(n));
            }
        }
        int[][] high = {{0xFF2E2E2E, 0}, {0x70FF2E2E, 1}, {0x7020FF2E, 2}, {0x702020FF, 3}, {0x80000000, 0}, {0x7F2E2E2E, 0}};
        for (int[] h : high) {
            TabledGoals y = new TabledGoals();
            y.feed(h[0], -1, -1, -1, -1);
            e.due("a high byte is none of the others", () -> y.text(20), -9);
            e.due("its place", y::fault, h[1]);
        }
    }

    private static void feedFull() {
        Edge e = new Edge("NONE, doing nothing, if there would be more than 400.");
        TabledGoals x = new TabledGoals();
        for (int n = 1; n <= 19; n++) {
            int bytes = 20 * n;
            e.due("feed", () -> x.feed(0x20202020, 0x20202020, 0x20202020, 0x20202020, 0x20202020), bytes);
        }
        e.due("the last one", () -> x.feed(0x20202020, 0x20202020, 0x20202020, 0x20202020, 0x2020702E), 400);
        e.due("one too many", () -> x.feed(0, 0, 0, 0, 0), -1);
        e.due("another one", () -> x.feed(-1, -1, -1, -1, -1), -1);
        e.due("all are there", () -> x.told(11), 400);
        e.due("as they were", () -> x.text(400), 1);
        e.due("there is room again", () -> x.feed(0, 0, 0, 0, 0), 20);
        e.due("no refusal", () -> x.status(0) + x.status(1) + x.status(2), 0);
    }

    private static void textTells() {
        Edge e = new Edge("The first n bytes of the TAPE (empty then) tell all CLAUSES anew (no TABLES; told() 6, 7 are 0): how many");
        for (int n : new int[] {0, 2, 20}) {
            TabledGoals x = Check.told("p(a):-q(b).q(b).");
            x.ask(0, 0, 0);
            x.ask(0, 0, 0);
            Check.bring(x, "s.r:-s,s.           ");
            int clauses = n == 0 ? 0 : n == 2 ? 1 : 2;
            e.due("text(" + n + ")", () -> x.text(n), clauses);
            int[] want = {clauses, 0, clauses, clauses > 0 ? 1 : 0, 0, 0, 0, 0, clauses > 0 ? 1 : 0, clauses, 0, 0};
            for (int what = 0; what < want.length; what++) {
                int w = what;
                e.due("told(" + w + ") behind text(" + n + ")", () -> x.told(w), want[w]);
            }
            e.due("nothing is completed", () -> x.completed(0), -1);
            e.due("no table", x::print, 0);
            e.missing("no table", () -> x.table(0, 0));
            e.missing("a clause of the old ones", () -> x.literals(clauses));
        }
        TabledGoals y = new TabledGoals();
        e.due("no bytes of an empty tape", () -> y.text(0), 0);
    }

    /** Whatever was told ahead, faults too, an object is as one that was told the text alone. */
    private static void textAnew() {
        Edge e = new Edge("tell all CLAUSES anew");
        String[] texts = {
            "p(X,Y):-q(X,Z),q(Z,Y),not r(X),q(X,X),q(Y,Y),not r(Y).q(a,b).q(b,c).r(c).",
            "t.u.v(a):-t,u.",
            "abcdefgh(stuvwxyz).q:-abcdefgh(X).",
            "p(X).",
            "b(d,c):-b(c,d).b(c,c).",
            "p:-q,r,s(",
            "p.".repeat(60),
            "s:-not s.",
            "",
            "z(b,X):-z(X,b),not z(X,X).z(a,b).y:-z(X,Y)."};
        for (String first : texts) {
            for (String second : texts) {
                for (String third : texts) {
                    toldAlone(e, first, second, third);
                }
            }
        }
    }

    private static void toldAlone(Edge e, String... texts) {
        TabledGoals x = new TabledGoals();
        TabledGoals alone = new TabledGoals();
        for (String text : texts) {
            Check.bring(x, text);
            if (x.text(text.length()) >= 0) {
                alone = Check.told(text);
            }
        }
        String unlike = Shot.unlike(withoutFault(alone), withoutFault(x));
        e.due("behind " + String.join(" ; ", texts) + ": " + unlike, () -> unlike.length(), 0);
    }

    private static String withoutFault(TabledGoals x) {
        return new Shot(x).all().replaceAll("fault: .*\n", "");
    }

    private static void textFaults() {
        Edge e = new Edge("or the FAULT less 10 (all stays but the TAPE, fault())");
        String[] texts = {"p:", "abcdefghi.", "p:-q(A,B),q(C,D).", "p(a).p.", "p(X)."};
        int[] places = {1, 0, 14, 5, 2};
        for (int f = 0; f < texts.length; f++) {
            TabledGoals x = Check.told("p(a):-q(b).q(b).r:-not r.");
            x.ask(0, 0, 0);
            x.ask(2, 0, 0);
            x.assume(1, 0, 0);
            String before = new Shot(x).all();
            String text = texts[f];
            int kind = f + 1;
            int place = places[f];
            Check.bring(x, text);
            e.due("fault " + kind, () -> x.text(text.length()), kind - 10);
            String unlike = Shot.unlike(before.replace("fault: -1\n", "fault: " + place + "\n"), new Shot(x).all());
            e.due("all stays but the tape and fault(): " + unlike, () -> unlike.length(), 0);
            e.due("no refusal", () -> x.status(0) + x.status(1) + x.status(2), 0);
        }
    }

    private static void textRefused() {
        Edge e = new Edge("IllegalArgumentException: n is not 0 to the TAPE's bytes (it stays; so below).");
        TabledGoals x = new TabledGoals();
        e.argument("one of none", () -> x.text(1));
        e.argument("below 0", () -> x.text(-1));
        Check.bring(x, "p.q.                ");
        e.argument("one more than there are", () -> x.text(21));
        e.argument("below 0", () -> x.text(-1));
        e.argument("400 of 20", () -> x.text(400));
        e.argument("the lowest", () -> x.text(Integer.MIN_VALUE));
        e.argument("the highest", () -> x.text(Integer.MAX_VALUE));
        e.due("the tape stays", () -> x.told(11), 20);
        e.due("all are counted", () -> x.status(1), 7);
        e.due("as many as there are", () -> x.text(20), 2);
        e.argument("it is empty then", () -> x.text(20));
        e.due("the clauses stay", () -> x.told(2), 2);
    }

    private static void faultPlace() {
        Edge e = new Edge("The place of the FAULT of the latest text(); NONE without.");
        TabledGoals x = new TabledGoals();
        e.due("without a text", x::fault, -1);
        Check.bring(x, "X");
        x.text(1);
        e.due("the first place", x::fault, 0);
        Check.bring(x, " ".repeat(398) + "p(");
        x.text(400);
        e.due("the last place", x::fault, 400);
        Check.bring(x, "p");
        e.argument("a refused text", () -> x.text(401));
        e.due("stays behind a refused text", x::fault, 400);
        x.text(1);
        e.due("of the latest", x::fault, 1);
        x.text(0);
        e.due("none", x::fault, -1);
    }

    private static void assumeComes() {
        Edge e = new Edge("A FACT comes (the last CLAUSE then): how many TABLES are STALE by that that were not");
        TabledGoals x = Check.told("p(a,b).");
        e.due("no tables", () -> x.assume(0, 1, 1), 0);
        e.due("it is the last clause", () -> x.clause(1, -1, 1), 1);
        e.due("no literals", () -> x.literals(1), 0);
        x.retract(0, 0, 1);
        x.retract(0, 1, 1);
        e.due("no clauses are left", () -> x.told(2) + x.told(3), 0);
        e.due("no stages", () -> x.told(8), 0);
        e.due("the first clause", () -> x.assume(0, 0, 0), 0);
        e.due("it is clause 0", () -> x.clause(0, -1, 2), 0);
        e.due("it is true", () -> x.value(0, 0, 0), 2);
        x.ask(0, -1, -2);
        x.ask(0, -1, -1);
        x.ask(0, 1, -1);
        e.due("two of three", () -> x.assume(0, 0, 1) + 10 * x.assume(0, 1, 1), 21);
        e.due("all are stale", () -> x.told(5), 0);
        e.due("none that was not", () -> x.assume(0, 1, 0), 0);
        x.ask(0, 1, -1);
        x.retract(0, 1, 0);
        e.due("stale once more", () -> x.told(5), 0);
        TabledGoals y = Check.told("p(X):-q(X).q(a).p(b).");
        e.due("a fact that a rule tells already is none", () -> y.assume(0, 0, 0), 0);
        e.due("it is the fourth clause", () -> y.told(2), 4);
        e.due("of predicate 0 there are three", () -> y.predicate(0, 1), 3);
    }

    private static void assumeNone() {
        Edge e = new Edge("NONE: it is one already (nothing happens).");
        TabledGoals x = Check.told("p(a,b).q.r:-q.");
        x.ask(0, -1, -2);
        x.ask(1, 0, 0);
        String before = new Shot(x).all();
        e.due("with terms", () -> x.assume(0, 0, 1), -1);
        e.due("without", () -> x.assume(1, 0, 0), -1);
        e.due("nothing happens", () -> Shot.unlike(before, new Shot(x).all()).length(), 0);
        e.due("the terms changed over is another one", () -> x.assume(0, 1, 0), 1);
        e.due("now it is one", () -> x.assume(0, 1, 0), -1);
        x.retract(0, 1, 0);
        e.due("now it is none", () -> x.assume(0, 1, 0), 0);
        e.due("a rule with it as head does not make it one", () -> x.assume(2, 0, 0), 0);
    }

    private static void assumeRefused() {
        Edge e = new Edge("NoSuchElementException: as told (ahead of others). IllegalArgumentException: a TERM that the PREDICATE has not is not 0.");
        TabledGoals x = Check.told("p(a,b).q(a).r.");
        e.missing("a predicate behind the last", () -> x.assume(3, 0, 0));
        e.missing("a predicate below 0", () -> x.assume(-1, 0, 0));
        e.missing("that, ahead of a term that it has not", () -> x.assume(3, 1, 1));
        e.missing("a first constant behind the last", () -> x.assume(0, 2, 0));
        e.missing("a second constant behind the last", () -> x.assume(0, 0, 2));
        e.missing("a first constant below 0", () -> x.assume(0, -1, 0));
        e.missing("a second constant below 0", () -> x.assume(0, 0, -1));
        e.missing("a constant, ahead of a term that it has not", () -> x.assume(1, 2, 1));
        e.missing("a constant, ahead of a term that it has not", () -> x.retract(1, -1, 1));
        e.argument("a second term", () -> x.assume(1, 0, 1));
        e.argument("a second term below 0", () -> x.assume(1, 0, -1));
        e.argument("a first term", () -> x.assume(2, 1, 0));
        e.argument("a first term that is no constant", () -> x.assume(2, 9, 0));
        e.argument("a second term", () -> x.assume(2, 0, 1));
        e.argument("a second term", () -> x.retract(2, 0, 1));
        e.due("they are counted", () -> 10 * x.status(0) + x.status(1), 96);
        e.due("the last constants may be", () -> x.assume(0, 1, 1), 0);
        e.due("nothing else came", () -> x.told(2), 4);
    }

    private static void assumeFull() {
        Edge e = new Edge("IllegalStateException: there are 60 CLAUSES.");
        TabledGoals x = Check.told("p(a)." + "q.".repeat(57) + "r(b):-q.");
        e.due("59 clauses", () -> x.told(2), 59);
        e.due("the 60th", () -> x.assume(0, 1, 0), 0);
        e.due("60 clauses", () -> x.told(2), 60);
        String before = new Shot(x).all();
        e.state("the 61st", () -> x.assume(2, 0, 0));
        e.missing("NoSuchElementException ahead of it", () -> x.assume(2, 2, 0));
        e.argument("IllegalArgumentException ahead of it", () -> x.assume(1, 1, 0));
        e.due("all stays", () -> Shot.unlike(before, new Shot(x).all()).length(), 0);
        e.due("counted", () -> 100 * x.status(0) + 10 * x.status(1) + x.status(2), 111);
        e.due("one goes", () -> x.retract(1, 0, 0), 0);
        e.due("one comes", () -> x.assume(2, 0, 0), 0);
        e.due("it is the last one", () -> x.clause(59, -1, 0), 2);
    }

    private static void retractGoes() {
        Edge e = new Edge("A FACT goes (CLAUSES behind it have one less; of several alike ones the first): likewise");
        TabledGoals x = Check.told("p(a).q:-p(a),not r.p(b).p(a).r:-q.p(a).");
        x.ask(0, -1, 0);
        x.ask(0, 1, 0);
        x.ask(1, 0, 0);
        e.due("p(-1), p(a), q, r", () -> x.told(4), 5);
        e.due("p(a) goes: p(-1), q, p(a), r", () -> x.retract(0, 0, 0), 4);
        int[][] heads = {{1, 0, 2}, {0, 1, 0}, {0, 0, 0}, {2, 0, 1}, {0, 0, 0}};
        for (int c = 0; c < heads.length; c++) {
            int k = c;
            e.due("head of " + k, () -> x.clause(k, -1, 0), heads[k][0]);
            e.due("term of " + k, () -> x.clause(k, -1, 1), heads[k][1]);
            e.due("literals of " + k, () -> x.literals(k), heads[k][2]);
        }
        e.due("a literal of one that moved", () -> x.clause(0, 1, 3), 1);
        e.missing("one clause less", () -> x.literals(5));
        e.due("the next of the alike ones", () -> x.retract(0, 0, 0), 0);
        e.due("the third clause is r's", () -> x.clause(2, -1, 0), 2);
        e.due("the last of the alike ones, the last clause", () -> x.retract(0, 0, 0), 0);
        e.due("three are left", () -> x.told(2), 3);
        e.due("p(b) goes", () -> x.retract(0, 1, 0), 1);
    }

    private static void retractNone() {
        Edge e = new Edge("likewise; NONE: it is none.");
        TabledGoals x = Check.told("p(a):-q(b).q(b).");
        x.ask(0, 0, 0);
        String before = new Shot(x).all();
        e.due("true, by a rule alone", () -> x.retract(0, 0, 0), -1);
        e.due("false", () -> x.retract(0, 1, 0), -1);
        e.due("false", () -> x.retract(1, 0, 0), -1);
        e.due("nothing happens", () -> Shot.unlike(before, new Shot(x).all()).length(), 0);
        e.due("no refusal", () -> x.status(0) + x.status(1) + x.status(2), 0);
        e.due("a fact", () -> x.retract(1, 1, 0), 2);
        e.due("none any more", () -> x.retract(1, 1, 0), -1);
    }

    /** Where a clause went another one comes: nothing of the first is left. */
    private static void comeAndGo() {
        Edge e = new Edge("A FACT goes (CLAUSES behind it have one less");
        TabledGoals x = Check.told("p.q:-p,not r.");
        x.retract(0, 0, 0);
        e.due("the rule is all that is left", () -> 10 * x.told(2) + x.told(3), 10);
        x.assume(0, 0, 0);
        e.due("a fact comes behind it", () -> x.literals(1), 0);
        e.due("it counts as one", () -> x.told(3), 1);
        TabledGoals y = Check.told("p(a,b).q(b).r.");
        y.retract(0, 0, 1);
        y.retract(2, 0, 0);
        y.retract(1, 1, 0);
        e.due("no clauses", () -> y.told(2), 0);
        y.assume(2, 0, 0);
        e.due("the head of the only one", () -> y.clause(0, -1, 0), 2);
        e.due("its terms", () -> 10 * y.clause(0, -1, 1) + y.clause(0, -1, 2), 0);
        y.assume(0, 1, 0);
        e.due("the terms of the next one", () -> 10 * y.clause(1, -1, 1) + y.clause(1, -1, 2), 10);
        TabledGoals z = Check.told("z.d:-c.c:-b.b:-a.a.");
        z.retract(0, 0, 0);
        e.due("rules that moved tell as ahead", () -> z.value(1, 0, 0), 2);
        e.due("and at once", () -> 10 * z.told(8) + z.stage(1, 0, 0), 11);
        z.retract(4, 0, 0);
        e.due("and don't without", () -> z.value(1, 0, 0), 0);
        z.assume(4, 0, 0);
        e.due("and do again", () -> z.value(1, 0, 0), 2);
    }

    /** Each call that tells of the model, as the first one behind a text and behind a fact that comes or goes. */
    private static void modelIsNew() {
        Edge e = new Edge("An ATOM is TRUE (2), if it is in TRUE of STAGES");
        // p q u g f: without f p is true, u undefined; with f q is true, p and u false
        String text = "p:-not q.u:-not q,not u,not g.q:-f.";
        int[] without = {1, 1, 1, 1, 1, 2, 0, 1, 4, 1, 3};
        int[] with = {1, 2, 0, 0, 0, 0, 1, 0, 3, 0, 1};
        for (int c = 0; c < without.length; c++) {
            int call = c;
            TabledGoals x = Check.told(text);
            e.due("call " + call + " behind a text", () -> ofTheModel(x, call), without[call]);
            x.assume(4, 0, 0);
            e.due("call " + call + " behind a fact that came", () -> ofTheModel(x, call), with[call]);
            x.retract(4, 0, 0);
            e.due("call " + call + " behind a fact that went", () -> ofTheModel(x, call), without[call]);
        }
    }

    private static int ofTheModel(TabledGoals x, int call) {
        switch (call) {
            case 0: return x.told(8);
            case 1: return x.told(9);
            case 2: return x.told(10);
            case 3: return x.predicate(0, 4);
            case 4: return x.predicate(2, 5);
            case 5: return x.value(0, 0, 0);
            case 6: return x.stage(1, 0, 0);
            case 7: return Check.outcome(() -> x.condition(2, 0, 0, -1, 0)).equals("1") ? 1 : 0;
            case 8: return x.reach(2, 0, 0);
            case 9: return x.table(x.ask(2, 0, 0), 5);
            default: return x.table(x.ask(2, 0, 0), 8);
        }
    }

    private static void askEdges() {
        Edge e = new Edge("A GOAL is ASKED: its TABLE. IllegalArgumentException: also a VARIABLE other than -1, -2.");
        TabledGoals x = Check.told("p(a,b).q(a).r.");
        e.due("the first table", () -> x.ask(2, 0, 0), 0);
        e.due("it is fresh", () -> x.told(5), 1);
        e.due("the last constants", () -> x.ask(0, 1, 1), 1);
        e.due("-1", () -> x.ask(1, -1, 0), 2);
        e.due("-2", () -> x.ask(0, -2, -2), 3);
        e.argument("-3, first", () -> x.ask(0, -3, 0));
        e.argument("-3, second", () -> x.ask(0, 0, -3));
        e.argument("the lowest", () -> x.ask(1, Integer.MIN_VALUE, 0));
        e.argument("a variable that is no term", () -> x.ask(1, 0, -1));
        e.argument("a variable that is no term", () -> x.ask(2, -1, 0));
        e.missing("a constant behind the last", () -> x.ask(0, 2, -1));
        e.missing("a constant behind the last, ahead of another variable", () -> x.ask(0, -3, 2));
        e.missing("a predicate behind the last", () -> x.ask(3, -3, 0));
        e.due("no table came", () -> x.told(4), 4);
        TabledGoals y = Check.told("p(X):-q(X).");
        e.due("without constants", () -> y.ask(0, -1, 0), 0);
        e.due("no answers", () -> y.table(0, 6), 0);
        e.missing("no constant", () -> y.ask(0, 0, 0));
    }

    private static void abolishEdges() {
        Edge e = new Edge("All TABLES are gone (numbers begin anew): how many there were.");
        TabledGoals x = Check.told("p(X):-q(X).q(a).q(b).r.");
        e.due("none", x::abolish, 0);
        x.ask(0, -1, 0);
        x.ask(2, 0, 0);
        x.retract(2, 0, 0);
        e.due("fresh and stale ones", x::abolish, 3);
        e.due("none are left", x::abolish, 0);
        e.due("not found", () -> x.find(0, -1, 0), -1);
        e.missing("no table", () -> x.table(0, 0));
        e.due("none completed", () -> x.completed(0), -1);
        e.due("print()", x::print, 0);
        e.due("a fact makes none stale", () -> x.retract(1, 0, 0), 0);
        e.due("numbers begin anew", () -> x.ask(1, -1, 0), 0);
        e.due("made once", () -> x.table(0, 11), 1);
        e.due("no hits", () -> x.table(0, 10), 0);
        e.due("it was asked", () -> x.table(0, 9), -1);
        e.due("told(6) goes on", () -> x.told(6), 4);
        x.ask(1, -1, 0);
        e.due("a hit", () -> x.table(0, 10), 1);
        x.abolish();
        x.ask(0, 1, 0);
        e.due("the next table 0 has none", () -> x.table(0, 10), 0);
        e.due("told(7) goes on", () -> x.told(7), 1);
    }

    private static void toldEdges() {
        Edge e = new Edge("0 PREDICATES, 1 CONSTANTS, 2 CLAUSES, 3 FACTS, 4 TABLES, 5 FRESH ones, 6 how often a TABLE was made (anew, too), 7 HITS, 8 STAGES, 9 ATOMS that are TRUE, 10 UNDEFINED, 11 bytes of the TAPE.");
        TabledGoals x = Check.told("p(X):-q(X),not p(X).q(a).q(b).r:-not s.s:-not r,t.");
        x.ask(0, 0, 0);
        x.assume(1, 1, 0);
        x.retract(1, 0, 0);
        x.feed(0, 0, 0, 0, 0);
        // p(a) and q(a) stale; TRUE: q(b), r; UNDEFINED: p(b)
        int[] want = {5, 2, 4, 1, 2, 0, 2, 1, 1, 2, 1, 20};
        for (int what = 0; what < want.length; what++) {
            int w = what;
            e.due("told(" + w + ")", () -> x.told(w), want[w]);
        }
        e.argument("12", () -> x.told(12));
        e.argument("-1", () -> x.told(-1));
        e.argument("the lowest", () -> x.told(Integer.MIN_VALUE));
        e.argument("the highest", () -> x.told(Integer.MAX_VALUE));
        e.due("counted", () -> x.status(1), 4);
    }

    private static void toldMade() {
        Edge e = new Edge("6 how often a TABLE was made (anew, too), 7 HITS");
        TabledGoals x = Check.told("p:-q.q:-r,q.r.");
        x.ask(0, 0, 0);
        // p, q, r made; q's q: no, r is true, so q is called: a hit
        e.due("made", () -> x.told(6), 3);
        e.due("hits", () -> x.told(7), 1);
        x.assume(0, 0, 0);
        x.ask(0, 0, 0);
        e.due("p anew", () -> x.told(6), 4);
        e.due("p's q is a hit", () -> x.told(7), 2);
        x.retract(2, 0, 0);
        e.due("being stale makes nothing", () -> x.told(6), 4);
        x.ask(2, 0, 0);
        e.due("r anew", () -> x.told(6), 5);
        x.ask(1, 0, 0);
        e.due("q anew, r is a hit", () -> 10 * x.told(6) + x.told(7), 63);
        x.abolish();
        e.due("behind abolish()", () -> 10 * x.told(6) + x.told(7), 63);
    }

    private static void predicateEdges() {
        Edge e = new Edge("Of a PREDICATE: 0 TERMS, 1 CLAUSES with it as HEAD, 2 STRATUM (NONE), 3 letters of its NAME, 4 ATOMS that are TRUE, 5 UNDEFINED.");
        TabledGoals x = Check.told("abcdefgh(X,Y):-k(X),k(Y)." + ALL_EIGHT + "u(X,Y):-k(X),k(Y),not u(X,Y).n:-z.");
        int[][] want = {{2, 1, 0, 8, 64, 0}, {1, 8, 0, 1, 8, 0}, {2, 1, -1, 1, 0, 64}, {0, 1, 0, 1, 0, 0}, {0, 0, 0, 1, 0, 0}};
        for (int p = 0; p < want.length; p++) {
            for (int what = 0; what <= 5; what++) {
                int k = p;
                int w = what;
                e.due("predicate(" + k + ", " + w + ")", () -> x.predicate(k, w), want[k][w]);
            }
        }
        e.argument("6", () -> x.predicate(4, 6));
        e.argument("-1", () -> x.predicate(0, -1));
        e.missing("5 of 5", () -> x.predicate(5, 0));
        e.missing("ahead of a wrong what", () -> x.predicate(5, 6));
        e.missing("below 0", () -> x.predicate(-1, -1));
        e.due("60 clauses with one head", () -> Check.told("p.".repeat(60)).predicate(0, 1), 60);
    }

    private static void nameEdges() {
        Edge e = new Edge("Letter i of a NAME: of a PREDICATE (kind 0), a CONSTANT (1).");
        TabledGoals x = Check.told("a(stuvwxyz,z).hgfedcba.");
        e.due("the only letter", () -> x.nameAt(0, 0, 0), 'a');
        e.missing("a second one", () -> x.nameAt(0, 0, 1));
        e.due("the eighth", () -> x.nameAt(0, 1, 7), 'a');
        e.missing("a ninth", () -> x.nameAt(0, 1, 8));
        e.missing("ahead of the first", () -> x.nameAt(0, 1, -1));
        e.due("of a constant, the eighth", () -> x.nameAt(1, 0, 7), 'z');
        e.missing("of a constant, a ninth", () -> x.nameAt(1, 0, 8));
        e.due("of the last constant", () -> x.nameAt(1, 1, 0), 'z');
        e.missing("of the last constant, a second one", () -> x.nameAt(1, 1, 1));
        e.missing("a predicate behind the last", () -> x.nameAt(0, 2, 0));
        e.missing("a predicate below 0", () -> x.nameAt(0, -1, 0));
        e.missing("a constant behind the last", () -> x.nameAt(1, 2, 0));
        e.missing("a constant below 0", () -> x.nameAt(1, -1, 0));
        e.argument("kind 2", () -> x.nameAt(2, 0, 0));
        e.argument("kind -1", () -> x.nameAt(-1, 0, 0));
    }

    private static void clauseEdges() {
        Edge e = new Edge("0 PREDICATE, 1, 2 TERMS (a VARIABLE: less its number among those of the CLAUSE as they come, less 1: -1, -2, -3), 3 1 by NOT.");
        TabledGoals x = Check.told("p(C,a):-q(A,C),not q(C,A),q(B,B),r(b),not s.s.");
        int[][] want = {{0, -1, 0, 0}, {1, -2, -1, 0}, {1, -1, -2, 1}, {1, -3, -3, 0}, {2, 1, 0, 0}, {3, 0, 0, 1}};
        for (int l = -1; l < 5; l++) {
            for (int what = 0; what <= 3; what++) {
                int k = l;
                int w = what;
                e.due("clause(0, " + k + ", " + w + ")", () -> x.clause(0, k, w), want[k + 1][w]);
            }
        }
        e.due("a head of a fact", () -> x.clause(1, -1, 0), 3);
        e.due("a head is never by not", () -> x.clause(1, -1, 3), 0);
        e.missing("a literal behind the last", () -> x.clause(0, 5, 0));
        e.missing("a literal of a fact", () -> x.clause(1, 0, 0));
        e.missing("-2 is no literal", () -> x.clause(0, -2, 0));
        e.missing("a clause behind the last", () -> x.clause(2, -1, 0));
        e.missing("a clause below 0", () -> x.clause(-1, -1, 0));
        e.argument("4", () -> x.clause(0, 0, 4));
        e.argument("-1", () -> x.clause(0, -1, -1));
        e.missing("a literal, ahead of a wrong what", () -> x.clause(0, 5, 4));
    }

    private static void literalsEdges() {
        Edge e = new Edge("How many LITERALS a CLAUSE has.");
        TabledGoals x = Check.told("p.p:-p.p:-p,p,p,p,p,p.");
        e.due("none", () -> x.literals(0), 0);
        e.due("one", () -> x.literals(1), 1);
        e.due("six", () -> x.literals(2), 6);
        e.missing("a clause behind the last", () -> x.literals(3));
        e.missing("a clause below 0", () -> x.literals(-1));
    }

    private static void valueAndStage() {
        Edge e = new Edge("An ATOM: 2 TRUE, 1 UNDEFINED, 0 FALSE.");
        TabledGoals x = Check.told("p(h,g).u:-not u.q(a):-u." + "k(b).k(c).k(d).k(e).k(f).");
        e.due("true, the first constants", () -> x.value(0, 0, 1), 2);
        e.due("false", () -> x.value(0, 1, 0), 0);
        e.due("undefined, without terms", () -> x.value(1, 0, 0), 1);
        e.due("undefined, with a term", () -> x.value(2, 2, 0), 1);
        e.due("true, the last constant", () -> x.value(3, 7, 0), 2);
        e.missing("a constant behind the last", () -> x.value(3, 8, 0));
        e.missing("a variable", () -> x.value(3, -1, 0));
        e.argument("a term that it has not", () -> x.value(3, 7, 1));
        Edge f = new Edge("Its STAGE; NONE.");
        f.due("true", () -> x.stage(0, 0, 1), 1);
        f.due("false", () -> x.stage(0, 7, 7), 0);
        f.due("undefined", () -> x.stage(2, 2, 0), -1);
        f.missing("a constant behind the last", () -> x.stage(0, 0, 8));
        f.missing("a predicate behind the last", () -> x.stage(4, 0, 0));
        f.argument("a term that it has not", () -> x.stage(1, 0, 7));
    }

    private static void findEdges() {
        Edge e = new Edge("The TABLE of a GOAL (FRESH or STALE); NONE. (It is not gone into.)");
        TabledGoals x = Check.told("p(X):-q(X).q(a).");
        e.due("none", () -> x.find(0, -1, 0), -1);
        e.due("none has come", () -> x.told(4) + x.told(6) + x.told(7), 0);
        x.ask(0, -1, 0);
        e.due("a fresh one", () -> x.find(0, -2, 0), 0);
        e.due("no hit", () -> x.told(7), 0);
        x.retract(1, 0, 0);
        e.due("a stale one", () -> x.find(1, -1, 0), 1);
        e.due("still stale", () -> x.told(5), 0);
        e.due("made once", () -> x.told(6), 2);
        e.argument("another variable", () -> x.find(0, -3, 0));
        e.missing("a constant behind the last", () -> x.find(0, 1, 0));
        e.argument("a variable that is no term", () -> x.find(0, 0, -1));
    }

    private static void tableEdges() {
        Edge e = new Edge("Of a TABLE: 0 PREDICATE, 1, 2 TERMS, 3 1 FRESH, 0 STALE, 4 ANSWERS that are TRUE, 5 UNDEFINED, 6 NODES of its TRIE, 7 LEADER, 8 CALLS, 9 the TABLE that went into it first (NONE: it was ASKED), 10 HITS of it, 11 how often it was made, 12 TABLES that CALL it.");
        TabledGoals x = Check.told("p(X,Y):-q(Y,X),not p(Y,X).q(a,b).q(b,b).");
        // p(-1,-2) 0: q(-2,-1) 1, p(a,b) 2, p(b,b) 3; p(b,a) true, p(b,b) undefined
        x.ask(0, -2, -1);
        int[][] want = {
            {0, -1, -2, 1, 1, 1, 4, 0, 3, -1, 0, 1, 0},
            {1, -1, -2, 1, 2, 0, 5, 1, 0, 0, 0, 1, 1},
            {0, 0, 1, 1, 0, 0, 0, 2, 1, 0, 0, 1, 1},
            {1, 1, 0, 1, 0, 0, 0, 3, 0, 2, 0, 1, 1},
            {0, 1, 1, 1, 0, 1, 1, 4, 2, 0, 1, 1, 2},
            {1, 1, 1, 1, 1, 0, 1, 5, 0, 4, 0, 1, 1}};
        e.due("tables", () -> x.told(4), want.length);
        for (int t = 0; t < want.length; t++) {
            for (int what = 0; what <= 12; what++) {
                int k = t;
                int w = what;
                e.due("table(" + k + ", " + w + ")", () -> x.table(k, w), want[k][w]);
            }
        }
        e.argument("13", () -> x.table(0, 13));
        e.argument("-1", () -> x.table(5, -1));
        e.missing("a table behind the last", () -> x.table(6, 0));
        e.missing("a table below 0", () -> x.table(-1, 0));
        e.missing("ahead of a wrong what", () -> x.table(6, 13));
        x.assume(1, 1, 0);
        e.due("stale", () -> x.table(0, 3), 0);
        e.due("not that one", () -> x.table(5, 3), 1);
    }

    private static void tableFirst() {
        Edge e = new Edge("9 the TABLE that went into it first (NONE: it was ASKED), 10 HITS of it, 11 how often it was made");
        TabledGoals x = Check.told("p:-q.q:-q.r:-q.");
        x.ask(1, 0, 0);
        e.due("it was asked", () -> x.table(0, 9), -1);
        e.due("its own hit", () -> x.table(0, 10), 1);
        x.ask(0, 0, 0);
        x.ask(2, 0, 0);
        e.due("asked first", () -> x.table(0, 9), -1);
        e.due("hits", () -> x.table(0, 10), 3);
        x.assume(1, 0, 0);
        x.ask(0, 0, 0);
        e.due("asked first, though p made it anew", () -> x.table(0, 9), -1);
        e.due("made twice", () -> x.table(0, 11), 2);
        e.due("its own hit once more", () -> x.table(0, 10), 4);
        e.due("p was asked", () -> x.table(1, 9), -1);
        TabledGoals y = Check.told("p:-q.r:-q.q.");
        y.ask(0, 0, 0);
        y.ask(1, 0, 0);
        y.retract(1, 0, 0);
        e.due("p went into q first", () -> y.table(1, 9), 0);
        y.ask(2, 0, 0);
        e.due("and did so, whatever came behind", () -> y.table(1, 9), 0);
    }

    private static void tableCallers() {
        Edge e = new Edge("12 TABLES that CALL it");
        TabledGoals x = Check.told("p:-q,not q.r:-not q.q:-q.s.");
        x.ask(0, 0, 0);
        x.ask(2, 0, 0);
        x.ask(3, 0, 0);
        e.due("p once, r, itself", () -> x.table(1, 12), 3);
        e.due("none", () -> x.table(0, 12), 0);
        e.due("none", () -> x.table(3, 12), 0);
    }

    private static void callsEdges() {
        Edge e = new Edge("The i-th of its CALLS: 0 the TABLE, 1 1 plainly, 2 by NOT, 3 both.");
        TabledGoals x = Check.told("p:-q,not r.p:-not q.p:-s.r.q.");
        x.ask(0, 0, 0);
        int[][] want = {{1, 3}, {2, 2}, {3, 1}};
        for (int i = 0; i < 3; i++) {
            int k = i;
            e.due("the table of " + k, () -> x.calls(0, k, 0), want[k][0]);
            e.due("how " + k, () -> x.calls(0, k, 1), want[k][1]);
        }
        e.missing("behind the last", () -> x.calls(0, 3, 0));
        e.missing("ahead of the first", () -> x.calls(0, -1, 0));
        e.missing("of one that calls none", () -> x.calls(1, 0, 0));
        e.missing("of a table behind the last", () -> x.calls(4, 0, 0));
        e.missing("of a table below 0", () -> x.calls(-1, 0, 0));
        e.argument("2", () -> x.calls(0, 0, 2));
        e.argument("-1", () -> x.calls(0, 2, -1));
        e.missing("ahead of a wrong what", () -> x.calls(0, 3, 2));
    }

    private static void answerEdges() {
        Edge e = new Edge("The i-th of its ANSWERS: 0, 1 its TERMS, 2 what it was (1, 2).");
        TabledGoals x = Check.told("p(a,b).p(b,b):-not p(b,b).q(b).r.");
        int[] tables = {x.ask(0, -1, -2), x.ask(1, -1, 0), x.ask(2, 0, 0), x.ask(1, 0, 0)};
        int[][][] want = {{{0, 1, 2}, {1, 1, 1}}, {{1, 0, 2}}, {{0, 0, 2}}, {}};
        for (int t = 0; t < want.length; t++) {
            int k = tables[t];
            int n = want[t].length;
            for (int i = 0; i < n; i++) {
                for (int what = 0; what <= 2; what++) {
                    int[] row = want[t][i];
                    int a = i;
                    int w = what;
                    e.due("answer(" + k + ", " + a + ", " + w + ")", () -> x.answer(k, a, w), row[w]);
                }
            }
            e.missing("behind the last of " + k, () -> x.answer(k, n, 0));
            e.missing("ahead of the first of " + k, () -> x.answer(k, -1, 0));
        }
        e.missing("a table behind the last", () -> x.answer(x.told(4), 0, 0));
        e.argument("3", () -> x.answer(0, 1, 3));
        e.argument("-1", () -> x.answer(0, 0, -1));
        e.missing("ahead of a wrong what", () -> x.answer(0, 2, 3));
    }

    private static void completedEdges() {
        Edge e = new Edge("The k-th TABLE COMPLETED in the latest ask() (none behind text(), abolish()); NONE: not so many, k is below 0.");
        TabledGoals x = Check.told("p:-q.q.r.");
        e.due("none without an ask", () -> x.completed(0), -1);
        x.ask(0, 0, 0);
        e.due("the first", () -> x.completed(0), 1);
        e.due("the last", () -> x.completed(1), 0);
        e.due("not so many", () -> x.completed(2), -1);
        e.due("below 0", () -> x.completed(-1), -1);
        e.due("the lowest", () -> x.completed(Integer.MIN_VALUE), -1);
        e.due("the highest", () -> x.completed(Integer.MAX_VALUE), -1);
        e.missing("a refused ask", () -> x.ask(3, 0, 0));
        e.due("stays behind a refused ask", () -> x.completed(1), 0);
        x.find(2, 0, 0);
        x.reach(2, 0, 0);
        e.due("find() and reach() are no ask", () -> x.completed(0), 1);
        x.ask(2, 0, 0);
        e.due("of the latest", () -> x.completed(0), 2);
        e.due("of the latest alone", () -> x.completed(1), -1);
        x.ask(2, 0, 0);
        e.due("a hit completes none", () -> x.completed(0), -1);
        x.ask(1, 0, 0);
        x.abolish();
        x.ask(2, 0, 0);
        e.due("a number that began anew", () -> x.completed(0), 0);
        x.abolish();
        e.due("none behind abolish()", () -> x.completed(0), -1);
        x.ask(2, 0, 0);
        x.feed(0x702E2020, 0, 0, 0, 0);
        x.text(2);
        e.due("none behind text()", () -> x.completed(0), -1);
        e.due("no refusal but one", () -> x.status(0) + x.status(1) + x.status(2), 1);
    }

    private static void conditionEdges() {
        Edge e = new Edge("Of an ATOM that is UNDEFINED now (else NoSuchElementException, behind IllegalArgumentException): CONDITIONS, j NONE: how many; the j-th, l NONE: how many DELAYED, else the l-th one's place among its CLAUSE's LITERALS; l -2: its CLAUSE.");
        TabledGoals x = Check.told("t.p(a):-t,not u,u.u:-not u.p(a):-u.f:-f.p(b).");
        e.due("how many", () -> x.condition(1, 0, 0, -1, 0), 2);
        e.due("how many, whatever l", () -> x.condition(1, 0, 0, -1, Integer.MIN_VALUE), 2);
        e.due("delayed of the first", () -> x.condition(1, 0, 0, 0, -1), 2);
        e.due("its first place", () -> x.condition(1, 0, 0, 0, 0), 1);
        e.due("its last place", () -> x.condition(1, 0, 0, 0, 1), 2);
        e.missing("no more of it", () -> x.condition(1, 0, 0, 0, 2));
        e.due("its clause", () -> x.condition(1, 0, 0, 0, -2), 1);
        e.missing("l -3", () -> x.condition(1, 0, 0, 0, -3));
        e.due("the clause of the last", () -> x.condition(1, 0, 0, 1, -2), 3);
        e.due("delayed of the last", () -> x.condition(1, 0, 0, 1, -1), 1);
        e.missing("no more conditions", () -> x.condition(1, 0, 0, 2, -1));
        e.missing("no more conditions, l -2", () -> x.condition(1, 0, 0, 2, -2));
        e.missing("j -2", () -> x.condition(1, 0, 0, -2, -1));
        e.missing("a true one", () -> x.condition(1, 1, 0, -1, 0));
        e.missing("a true one without terms", () -> x.condition(0, 0, 0, -1, 0));
        e.missing("a false one", () -> x.condition(3, 0, 0, -1, 0));
        e.argument("IllegalArgumentException ahead of that", () -> x.condition(0, 1, 0, -1, 0));
        e.argument("IllegalArgumentException ahead of wrong j and l", () -> x.condition(1, 0, 1, 9, 9));
        e.missing("a predicate behind the last", () -> x.condition(4, 0, 0, -1, 0));
        e.missing("a constant behind the last, ahead of all", () -> x.condition(1, 2, 1, -1, 0));
        x.ask(1, 0, 0);
        x.assume(1, 0, 0);
        e.due("its table has it undefined", () -> x.answer(0, 0, 2), 1);
        e.missing("it is not undefined now", () -> x.condition(1, 0, 0, -1, 0));
    }

    private static void reachEdges() {
        Edge e = new Edge("How many GOALS there are that a GOAL comes to by CALLS now, itself too (nothing is made, HITS stay).");
        TabledGoals x = Check.told("p(X):-k(X),not p(X).k(a).k(b).f:-f.n(c).");
        e.due("itself alone", () -> x.reach(1, 0, 0), 1);
        e.due("itself once, though it calls itself", () -> x.reach(2, 0, 0), 1);
        e.due("p(a), k(a)", () -> x.reach(0, 0, 0), 2);
        e.due("p(c), k(c)", () -> x.reach(0, 2, 0), 2);
        // p(-1), k(-1), p(a), k(a), p(b), k(b)
        e.due("p(X)", () -> x.reach(0, -1, 0), 6);
        e.due("a variant", () -> x.reach(0, -2, 0), 6);
        e.due("nothing is made", () -> x.told(4) + x.told(6) + x.told(7), 0);
        x.ask(0, -1, 0);
        x.retract(1, 1, 0);
        e.due("now", () -> x.reach(0, -1, 0), 4);
        x.retract(1, 0, 0);
        e.due("now", () -> x.reach(0, -1, 0), 2);
        e.due("nothing is made anew", () -> x.told(6), 6);
        e.argument("another variable", () -> x.reach(0, -3, 0));
        e.missing("a constant behind the last", () -> x.reach(0, 3, 0));
        e.missing("a predicate behind the last", () -> x.reach(4, 0, 0));
        e.argument("a term that it has not", () -> x.reach(2, 0, 1));
    }

    private static void printWraps() {
        Edge e = new Edge("From 0 on, of all TABLES: 31 times what there is, and its PREDICATE, 31 times that, and ANSWERS that are TRUE, 31 times that, and UNDEFINED ones.");
        TabledGoals x = Check.told("p(X,Y):-k(X),k(Y),not p(X,Y)." + ALL_EIGHT + "t:-k(X),not t.");
        BigInteger sum = BigInteger.ZERO;
        e.due("no tables", x::print, 0);
        int[][] goals = {{2, 0, 0}, {0, -1, -2}, {1, -1, 0}, {0, 7, -1}, {0, -1, -1}};
        for (int[] g : goals) {
            x.ask(g[0], g[1], g[2]);
        }
        int tables = x.told(4);
        e.due("many tables", () -> tables > 60 ? 1 : 0, 1);
        for (int t = 0; t < tables; t++) {
            for (int what : new int[] {0, 4, 5}) {
                sum = sum.multiply(BigInteger.valueOf(31)).add(BigInteger.valueOf(x.table(t, what)));
            }
        }
        long want = sum.longValue();
        e.due("it wraps around as a long does", x::print, want);
        x.retract(1, 0, 0);
        e.due("stale ones as they were", x::print, want);
        TabledGoals y = Check.told(EVEN);
        y.ask(1, 0, 0);
        e.due("1, 0, 1, 0, 0, 1", y::print, ((31L * 31 + 1) * 31 * 31) * 31 + 1);
    }

    private static void statusEdges() {
        Edge e = new Edge("How many calls were refused: 0 NoSuchElementException, 1 IllegalArgumentException, 2 IllegalStateException; NONE for others.");
        TabledGoals x = Check.told("p.".repeat(60));
        for (int what = 0; what <= 2; what++) {
            int w = what;
            e.due("none yet", () -> x.status(w), 0);
        }
        e.due("3", () -> x.status(3), -1);
        e.due("-1", () -> x.status(-1), -1);
        e.due("the lowest", () -> x.status(Integer.MIN_VALUE), -1);
        e.due("the highest", () -> x.status(Integer.MAX_VALUE), -1);
        e.missing("one", () -> x.literals(60));
        e.argument("one", () -> x.told(12));
        e.argument("one more", () -> x.ask(0, 1, 0));
        e.due("a 61st that is one already is no refusal", () -> x.assume(0, 0, 0), -1);
        e.due("counted", () -> 100 * x.status(0) + 10 * x.status(1) + x.status(2), 120);
        x.text(0);
        e.due("text() leaves them", () -> 100 * x.status(0) + 10 * x.status(1) + x.status(2), 120);
        x.abolish();
        e.due("abolish() leaves them", () -> 100 * x.status(0) + 10 * x.status(1) + x.status(2), 120);
        TabledGoals y = Check.told("p." + "q.".repeat(58) + "r:-q.");
        e.state("two", () -> y.assume(2, 0, 0));
        e.state("two", () -> y.assume(2, 0, 0));
        e.due("counted", () -> y.status(2), 2);
        e.due("of another object none", () -> new TabledGoals().status(2), 0);
    }

    private static void numbersThatAreNot() {
        Edge e = new Edge("PREDICATE, CONSTANT, TABLE, CLAUSE that there is none of, what is not so many: NoSuchElementException. TERMS that a PREDICATE has not: 0.");
        TabledGoals x = Check.told("p.q(b,a).r(a):-p,q(X,Y).");
        x.ask(0, 0, 0);
        x.ask(2, 1, 0);
        e.due("a head's first term", () -> x.clause(0, -1, 1), 0);
        e.due("a head's second term", () -> x.clause(0, -1, 2), 0);
        e.due("a literal's first term", () -> x.clause(2, 0, 1), 0);
        e.due("a literal's second term", () -> x.clause(2, 0, 2), 0);
        e.due("a head's second term", () -> x.clause(2, -1, 2), 0);
        e.due("a table's first term", () -> x.table(0, 1), 0);
        e.due("a table's second term", () -> x.table(0, 2), 0);
        e.due("a table's second term", () -> x.table(1, 2), 0);
        e.due("an answer's first term", () -> x.answer(0, 0, 0), 0);
        e.due("an answer's second term", () -> x.answer(0, 0, 1), 0);
        e.due("an answer's second term", () -> x.answer(1, 0, 1), 0);
        e.missing("a predicate", () -> x.find(3, 0, 0));
        e.missing("a constant", () -> x.find(2, 2, 0));
        e.missing("a table", () -> x.table(3, 0));
        e.missing("a clause", () -> x.literals(3));
        e.missing("a literal", () -> x.clause(2, 2, 0));
        e.missing("a letter", () -> x.nameAt(1, 1, 1));
    }

    private static void lastCall() {
        Edge e = new Edge("An object is used for at most 512 calls after it has been made");
        TabledGoals x = Check.told("w(X):-m(X,Y),not w(Y).m(a,b).m(b,a).m(b,c)."); // 3 feeds, a text: 4 calls
        for (int calls = 4; calls < 508; calls += 4) {
            x.assume(1, 2, 0);
            x.ask(0, -1, 0);
            x.retract(1, 2, 0);
            x.ask(0, 0, 0);
        }
        // 8 tables and 4 of them anew at first, then 6 and 4 anew each time
        e.due("the 509th", () -> x.told(6), 12 + 125 * 10);
        e.due("the 510th: m(c,-1), w(c), w(b), w(a) are stale by that", () -> x.assume(1, 2, 0), 4);
        e.due("the 511th", () -> x.value(0, 0, 0), 1);
        e.due("the 512th", () -> x.ask(0, -1, 0), 0);
    }
}
