/** All that an object tells, by calls none of which is refused, so that two objects can be compared. */
final class Shot {
    private final TabledGoals x;
    private final StringBuilder told = new StringBuilder();
    private final int[] counts = new int[12];
    private int calls;

    Shot(TabledGoals x) {
        this.x = x;
        whole();
        names();
        clauses();
        tables();
        atoms();
    }

    String all() {
        return told.toString();
    }

    /** How many calls it took: an object is used for 512 at most. */
    int calls() {
        return calls;
    }

    /** What the two tell otherwise, a line of each; empty if all is alike. */
    static String unlike(String one, String other) {
        String[] a = one.split("\n");
        String[] b = other.split("\n");
        for (int i = 0; i < Math.max(a.length, b.length); i++) {
            String left = i < a.length ? a[i] : "nothing";
            String right = i < b.length ? b[i] : "nothing";
            if (!left.equals(right)) {
                return left + " became " + right;
            }
        }
        return "";
    }

    private int note(String what, long answer) {
        calls++;
        told.append(what).append(": ").append(answer).append('\n');
        return (int) answer;
    }

    private void whole() {
        for (int what = 0; what < counts.length; what++) {
            counts[what] = note("told " + what, x.told(what));
        }
        note("fault", x.fault());
        note("print", x.print());
        int k = 0;
        while (note("completed " + k, x.completed(k)) != TabledGoals.NONE) {
            k++;
        }
    }

    private void names() {
        for (int p = 0; p < counts[0]; p++) {
            for (int what = 0; what <= 5; what++) {
                int answer = note("predicate " + p + " " + what, x.predicate(p, what));
                for (int i = 0; what == 3 && i < answer; i++) {
                    note("letter " + i, x.nameAt(0, p, i));
                }
            }
        }
        for (int c = 0; c < counts[1]; c++) {
            note("constant " + c, x.nameAt(1, c, 0));
        }
    }

    private void clauses() {
        for (int c = 0; c < counts[2]; c++) {
            int literals = note("literals " + c, x.literals(c));
            for (int l = -1; l < literals; l++) {
                for (int what = 0; what <= 3; what++) {
                    note("clause " + c + " " + l + " " + what, x.clause(c, l, what));
                }
            }
        }
    }

    private void tables() {
        int[] row = new int[13];
        for (int t = 0; t < counts[4]; t++) {
            for (int what = 0; what < row.length; what++) {
                row[what] = note("table " + t + " " + what, x.table(t, what));
            }
            note("find", x.find(row[0], row[1], row[2]));
            note("reach", x.reach(row[0], row[1], row[2]));
            for (int i = 0; i < row[8]; i++) {
                note("call " + i, x.calls(t, i, 0));
                note("call " + i + " how", x.calls(t, i, 1));
            }
            for (int i = 0; i < row[4] + row[5]; i++) {
                for (int what = 0; what <= 2; what++) {
                    note("answer " + i + " " + what, x.answer(t, i, what));
                }
            }
        }
    }

    private void atoms() {
        for (int p = 0; p < counts[0]; p++) {
            int terms = note("terms", x.predicate(p, 0));
            int ones = terms > 0 ? counts[1] : 1;
            int twos = terms > 1 ? counts[1] : 1;
            for (int one = 0; one < ones; one++) {
                for (int two = 0; two < twos; two++) {
                    note("stage " + p + " " + one + " " + two, x.stage(p, one, two));
                    if (note("value " + p + " " + one + " " + two, x.value(p, one, two)) == 1) {
                        conditions(p, one, two);
                    }
                }
            }
        }
    }

    private void conditions(int p, int one, int two) {
        int count = note("conditions", x.condition(p, one, two, -1, 0));
        for (int j = 0; j < count; j++) {
            note("clause of condition " + j, x.condition(p, one, two, j, -2));
            int delayed = note("delayed of condition " + j, x.condition(p, one, two, j, -1));
            for (int l = 0; l < delayed; l++) {
                note("place " + l, x.condition(p, one, two, j, l));
            }
        }
    }
}
