/** Promises 1 to 8: a new object, THE TEXT, what is LAID, SAYINGS, FACTS and those that CLASH. */
public final class TextTest {
    private static final Checks checks = new Checks();

    public static void main(String[] args) {
        newObject();
        writing();
        wiping();
        faults();
        laying();
        layingClearsWhatWas();
        layingAfterLookingAhead();
        sayings();
        truths();
        facts();
        clashes();
        checks.end();
    }

    private static void due(String call, long got, long want) {
        checks.due(call, got, want);
    }

    private static void newObject() {
        LieForce force = new LieForce();
        int[][] told = {
            {0, 1, -4, 0}, {1, 0, 3, 1}, {2, 7, 4, 2}, {3, 0, 1, 0}, {4, 2, 5, 3}, {1, 4, 1, 1}, {0, 10, -4, 4}, {3, 2, 8, 2}
        };
        due("1 sayings", force.count(0), told.length);
        for (int s = 0; s < told.length; s++) {
            for (int what = 0; what < 4; what++) due("1 saying(" + s + ", " + what + ")", force.saying(s, what), told[s][what]);
        }
        for (int f = 0; f < 6; f++) due("1 fact(" + f + ")", force.fact(f), f == 0 || f == 2 || f == 5 ? 1 : 0);
        for (int what = 6; what <= 9; what++) due("1 count(" + what + ")", force.count(what), 0);
        due("1 the text is empty", force.wipe(), 0);
        due("1 pass(2)", force.pass(2), 2);
        due("1 none has served", force.count(3), 0);
        due("1 pass(1)", force.pass(1), 3);
        due("1 all have served", force.count(3), 6);
    }

    private static void writing() {
        LieForce force = new LieForce();
        for (int letter : Checks.outside(32, 126)) due("2 write(" + letter + ")", force.write(letter), LieForce.BAD);
        due("2 write(' ')", force.write(32), 1);
        due("2 write('~')", force.write(126), 2);
        for (int i = 3; i <= 200; i++) due("2 letter " + i, force.write('f'), i);
        due("2 full", force.write('f'), LieForce.FULL);
        due("2 bad comes ahead of full", force.write(31), LieForce.BAD);
        due("2 nothing changes", force.count(9), 200);
    }

    private static void wiping() {
        LieForce force = Checks.written("f0;f");
        due("3 wipe()", force.wipe(), 4);
        due("3 it is empty", force.count(9), 0);
        due("3 wipe() again", force.wipe(), 0);
        Checks.write(force, "f1;");
        due("3 written anew", force.fault(), LieForce.NONE);
        due("3 how long anew", force.wipe(), 3);
        Checks.write(force, "f0;f1;s0,0,0,0;");
        force.wipe();
        Checks.write(force, "f0");
        due("3 nothing is left of what was", force.fault(), 0);
        due("3 nothing to lay", force.lay(), LieForce.NO);
    }

    private static void faults() {
        String nine = "s0,0,0,0;s0,0,0,0;s0,0,0,0;s0,0,0,0;s0,0,0,0;s0,0,0,0;s0,0,0,0;s0,0,0,0;s0,0,0,0;";
        String[] without = {
            "", "f0;", "f5;f5;", "f05;", "r1;", "r20;r01;", "s4,11,11,5;", "s00,00,00,00;", "s0,0,11,0;", nine, nine + "r3;f1;"
        };
        for (String text : without) due("4 " + text, Checks.written(text).fault(), LieForce.NONE);
        String[] first = {
            "f6;", "f;", "f", "f0", "f0,", "f0,0;", "f000;", "f-1;", "f 0;", "F0;", "0;", ";", ",", " ", "r0;", "r21;", "r;", "r00;",
            "s5,0,0,0;", "s0,12,0,0;", "s0,0,12,0;", "s1,0,12,0;", "s0,0,0,6;", "s0,0,0;", "s0,0,0,0,0;", "s0,0,0,0", "s0;0,0,0;",
            "s0,,0,0;", "s,0,0,0;", "s0,0,0,;", "s0,000,0,0;", "s", "sf0;", "f0:", "f/;", "f:;", "r:;", "r;;", "s0,:,0,0;", "s0,0,/,0;", "r1:;", "r3,", "f0f1;"
        };
        for (String text : first) {
            due("4 " + text, Checks.written(text).fault(), 0);
            due("4 f0;r12;" + text, Checks.written("f0;r12;" + text).fault(), 7);
        }
        due("4 the tenth saying", Checks.written(nine + "f0;s0,0,0,0;f9;").fault(), 84);
        due("4 a ; too many", Checks.written("f0;;f1;").fault(), 3);
        LieForce force = Checks.written("f0;s");
        String stood = Checks.stand(force);
        due("4 the open one", force.fault(), 3);
        due("4 nothing changes", Checks.stand(force).equals(stood) ? 1 : 0, 1);
    }

    private static void laying() {
        String[] none = {"", "f0;f1;r3;", "s0,0,0,0;f", "s0,0,0,9;", "f6;s0,0,0,0;"};
        for (String text : none) {
            LieForce force = Checks.written(text);
            String stood = Checks.stand(force);
            due("5 " + text, force.lay(), LieForce.NO);
            due("5 nothing changes by " + text, Checks.stand(force).equals(stood) ? 1 : 0, 1);
        }
        LieForce force = Checks.laid("f1;f3;s3,11,02,5;f1;f1;f3;r7;r2;s0,3,4,1;");
        due("5 how many", force.lay(), 2);
        due("5 the text stays", force.count(9), 41);
        due("5 facts told again", force.fact(1) * 10 + force.fact(3), 10);
        due("5 two figures", force.saying(0, 1) * 100 + force.saying(0, 2), 1102);
        force.pass(1);
        due("5 by the last r not yet", force.count(3), 0);
        force.pass(1);
        due("5 by the last r", force.count(3), 2);
        LieForce usual = Checks.laid("s0,0,0,0;");
        usual.pass(4);
        due("5 four days by no r", usual.count(3), 0);
        usual.pass(1);
        due("5 five days by no r", usual.count(3), 1);
    }

    private static void layingClearsWhatWas() {
        LieForce force = Checks.laid("f0;s0,0,0,0;s0,1,0,1;r3;");
        String stood = Checks.stand(force);
        force.pass(2);
        force.withdraw(0);
        force.turn(3);
        force.say(1, 0, 0, 0);
        force.see(1, true);
        force.keep();
        due("5 laid again", force.lay(), 2);
        due("5 as at first", Checks.stand(force).equals(stood) ? 1 : 0, 1);
        due("5 days", force.count(4), 0);
        due("5 served", force.saying(1, 6), 0);
        due("5 nothing kept", force.back(), LieForce.NO);
        due("5 nothing undone", force.undo(), LieForce.NO);
        due("5 nothing seen", force.forget(), 0);
    }

    /** What was asked of days to come, or read ahead, leaves nothing in what is laid then. */
    private static void layingAfterLookingAhead() {
        LieForce force = Checks.laid("f3;s1,0,6,0;s1,1,7,1;s1,2,8,2;s1,3,9,3;r2;");
        force.behind(60);
        force.year(5, 60, 0);
        force.pass(1);
        force.fall(0);
        force.wipe();
        Checks.write(force, "s0,0,0,0;s0,1,0,1;s0,2,0,2;s0,3,0,3;");
        due("5 laid anew", force.lay(), 4);
        LieForce alone = Checks.laid("s0,0,0,0;s0,1,0,1;s0,2,0,2;s0,3,0,3;");
        due("5 as if alone", Checks.stand(force).equals(Checks.stand(alone)) ? 1 : 0, 1);
        force.pass(4);
        due("5 by the usual term", force.count(3), 0);
        force.pass(1);
        due("5 served by it", force.count(3), 4);
    }

    private static void sayings() {
        LieForce force = Checks.laid("f2;s0,1,7,3;s2,8,5,4;s1,2,9,5;r2;");
        int[][] want = {{0, 1, -4, 3, 0, 0, 0}, {2, 8, 5, 4, 0, 0, 0}, {1, 2, 9, 5, 1, 0, -4}};
        for (int s = 0; s < 3; s++) {
            for (int what = 0; what < 7; what++) due("6 saying(" + s + ", " + what + ")", force.saying(s, what), want[s][what]);
            for (int what : Checks.outside(0, 6)) due("6 what " + what, force.saying(s, what), LieForce.BAD);
        }
        for (int s : Checks.outside(0, 2)) due("6 s " + s, force.saying(s, 0), LieForce.BAD);
        force.pass(7);
        due("6 served", force.saying(1, 6), 7);
        force.withdraw(2);
        due("6 withdrawn", force.saying(2, 5), 1);
        due("6 withdrawn ones may be so", force.saying(2, 4), 1);
        force.turn(2);
        due("6 withdrawn ones may be not so", force.saying(2, 4), 0);
        due("6 withdrawn ones have no policeman", force.saying(2, 6), LieForce.NONE);
        due("6 one that has come to be so", force.saying(1, 6), LieForce.NONE);
        force.turn(2);
        due("6 served anew", force.saying(1, 6), 0);
        due("6 served on", force.saying(0, 6), 7);
    }

    /** Every kind by every two literals and every facts, each told by its words. */
    private static void truths() {
        for (int kind = 0; kind <= 4; kind++) {
            for (int a = 0; a < 12; a++) {
                for (int b = 0; b < 12; b++) truth(kind, a, b);
            }
        }
    }

    private static void truth(int kind, int a, int b) {
        LieForce force = Checks.laid("s" + kind + "," + a + "," + b + ",0;");
        int facts = 0;
        for (int turned = 0; turned <= 2; turned++) {
            boolean first = isSo(a, facts);
            boolean second = isSo(b, facts);
            boolean so = switch (kind) {
                case 0 -> first;
                case 1 -> first && second;
                case 2 -> first || second;
                case 3 -> !first || second;
                default -> first != second;
            };
            due("6 kind " + kind + " of " + a + ", " + b + " by " + facts, force.saying(0, 4), so ? 1 : 0);
            due("6 a lie by " + facts, force.saying(0, 6), so ? -4 : 0);
            int f = turned == 0 ? a % 6 : b % 6;
            force.turn(f);
            facts ^= 1 << f;
        }
    }

    private static boolean isSo(int literal, int facts) {
        return literal < 6 ? (facts >> literal & 1) == 1 : (facts >> (literal - 6) & 1) == 0;
    }

    private static void facts() {
        LieForce force = Checks.laid("f5;f0;s0,0,0,0;");
        int[] want = {1, 0, 0, 0, 0, 1};
        for (int f = 0; f < 6; f++) due("7 fact(" + f + ")", force.fact(f), want[f]);
        for (int f : Checks.outside(0, 5)) due("7 fact(" + f + ")", force.fact(f), LieForce.BAD);
        force.turn(5);
        due("7 turned", force.fact(5), 0);
    }

    private static void clashes() {
        LieForce force = Checks.laid("s0,0,0,0;s0,6,0,0;s1,1,7,0;s2,1,7,0;s4,0,1,0;s4,0,7,1;s3,0,6,2;s1,0,1,2;");
        String[] clashing = {"01", "02", "12", "23", "24", "25", "26", "27", "45", "17", "47", "67", "06"};
        for (int s = 0; s < 8; s++) {
            for (int t = 0; t < 8; t++) {
                int want = s == t ? LieForce.BAD : 0;
                for (String pair : clashing) if (pair.equals("" + Math.min(s, t) + Math.max(s, t))) want = 1;
                due("8 clash(" + s + ", " + t + ")", force.clash(s, t), want);
            }
            for (int t : Checks.outside(0, 7)) {
                due("8 clash(" + s + ", " + t + ")", force.clash(s, t), LieForce.BAD);
                due("8 clash(" + t + ", " + s + ")", force.clash(t, s), LieForce.BAD);
            }
        }
        due("8 two that are not there", force.clash(9, 9), LieForce.BAD);
        force.withdraw(0);
        due("8 a withdrawn one", force.clash(0, 1), 1);
    }
}
