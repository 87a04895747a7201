/** Promises 1 to 8: a new object, THE TEXT, what is LAID, SAYINGS, FACTS and those that CLASH. */
public final class TextTest {
    private static final Checks checks = new Checks();

    public static void main(String[] args) {
        newObject();
        newObjectsAreAlike();
        writing();
        writingToTheLastLetter();
        wiping();
        wipingLeavesTheRest();
        faults();
        numbersAtTheirBounds();
        theFirstFault();
        factsToldAgain();
        laying();
        layingAsManyAsThereCanBe();
        terms();
        layingClearsWhatWas();
        layingAfterLookingAhead();
        sayings();
        sayingsSuchAsThereAre();
        truths();
        facts();
        clashes();
        clashesWithItself();
        checks.end();
    }

    private static void due(String call, long got, long want) {
        checks.due(call, got, want);
    }

    private static void newObject() {
        LieForce force = new LieForce();
        int[][] told = {
            {0, 1, -4, 0}, {1, 0, 3, 1}, {2, 7, 4, 2}, {3, 0, 1, 0}, {4, 2, 5, 3}, {1, 4, 1, 1}, {0, 10, -4, 4}, {3, 2, 8, 2}
        };
        due("1 sayings", force.count(0), told.length);
        for (int s = 0; s < told.length; s++) {
            for (int what = 0; what < 4; what++) due("1 saying(" + s + ", " + what + ")", force.saying(s, what), told[s][what]);
        }
        for (int f = 0; f < 6; f++) due("1 fact(" + f + ")", force.fact(f), f == 0 || f == 2 || f == 5 ? 1 : 0);
        for (int what = 6; what <= 9; what++) due("1 count(" + what + ")", force.count(what), 0);
        due("1 the text is empty", force.wipe(), 0);
        due("1 pass(2)", force.pass(2), 2);
        due("1 none has served", force.count(3), 0);
        due("1 pass(1)", force.pass(1), 3);
        due("1 all have served", force.count(3), 6);
    }

    /** What is done to one force is not done to the next. */
    private static void newObjectsAreAlike() {
        String stood = Checks.stand(new LieForce());
        LieForce used = Checks.laid("f1;s1,0,0,0;r1;");
        used.pass(2);
        used.see(0, true);
        used.keep();
        due("1 another one", Checks.stand(new LieForce()).equals(stood) ? 1 : 0, 1);
    }

    private static void writing() {
        LieForce force = new LieForce();
        for (int letter : Checks.outside(32, 126)) due("2 write(" + letter + ")", force.write(letter), LieForce.BAD);
        due("2 write(' ')", force.write(32), 1);
        due("2 write('~')", force.write(126), 2);
        for (int i = 3; i <= 200; i++) due("2 letter " + i, force.write('f'), i);
        due("2 full", force.write('f'), LieForce.FULL);
        due("2 bad comes ahead of full", force.write(31), LieForce.BAD);
        due("2 nothing changes", force.count(9), 200);
    }

    /** A TEXT of 200 letters, told to its last one. */
    private static void writingToTheLastLetter() {
        String most = "s0,0,0,0;".repeat(9) + "f0;".repeat(37) + "f00;r10;";
        due("2 how many letters", most.length(), 200);
        LieForce force = Checks.written(most);
        due("2 no fault in 200", force.fault(), LieForce.NONE);
        due("2 the 201st", force.write('x'), LieForce.FULL);
        due("2 it is not written", force.fault(), LieForce.NONE);
        due("2 laid", force.lay(), 9);
        due("2 by the last item", force.saying(0, 6), 0);
        force.pass(9);
        due("2 nine days of ten", force.count(3), 0);
        force.pass(1);
        due("2 ten days", force.count(3), 9);
        due("2 wiped", force.wipe(), 200);
        due("2 room again", force.write('f'), 1);
        LieForce open = Checks.written(most.substring(0, 196) + "r100");
        due("2 the end of the last item has no room", open.write(';'), LieForce.FULL);
        due("2 a fault in the last item", open.fault(), 196);
        due("2 a fault of the last letter", Checks.written(most.substring(0, 196) + "r1;f").fault(), 199);
    }

    private static void wiping() {
        LieForce force = Checks.written("f0;f");
        due("3 wipe()", force.wipe(), 4);
        due("3 it is empty", force.count(9), 0);
        due("3 wipe() again", force.wipe(), 0);
        Checks.write(force, "f1;");
        due("3 written anew", force.fault(), LieForce.NONE);
        due("3 how long anew", force.wipe(), 3);
        Checks.write(force, "f0;f1;s0,0,0,0;");
        force.wipe();
        Checks.write(force, "f0");
        due("3 nothing is left of what was", force.fault(), 0);
        due("3 nothing to lay", force.lay(), LieForce.NO);
    }

    private static void wipingLeavesTheRest() {
        LieForce force = Checks.laid("f0;s0,0,0,0;s0,1,0,1;r3;");
        force.pass(2);
        force.turn(3);
        force.see(0, true);
        force.keep();
        String stood = Checks.stand(force);
        due("3 wipe()", force.wipe(), 24);
        Checks.write(force, "f0;s0,0,0,0;s0,1,0,1;r3;");
        due("3 all else stays", Checks.stand(force).equals(stood) ? 1 : 0, 1);
    }

    private static void faults() {
        String nine = "s0,0,0,0;s0,0,0,0;s0,0,0,0;s0,0,0,0;s0,0,0,0;s0,0,0,0;s0,0,0,0;s0,0,0,0;s0,0,0,0;";
        String[] without = {
            "", "f0;", "f5;f5;", "f05;", "r1;", "r20;r01;", "s4,11,11,5;", "s00,00,00,00;", "s0,0,11,0;", nine, nine + "r3;f1;"
        };
        for (String text : without) due("4 " + text, Checks.written(text).fault(), LieForce.NONE);
        String[] first = {
            "f6;", "f;", "f", "f0", "f0,", "f0,0;", "f000;", "f-1;", "f 0;", "F0;", "0;", ";", ",", " ", "r0;", "r21;", "r;", "r00;",
            "s5,0,0,0;", "s0,12,0,0;", "s0,0,12,0;", "s1,0,12,0;", "s0,0,0,6;", "s0,0,0;", "s0,0,0,0,0;", "s0,0,0,0", "s0;0,0,0;",
            "s0,,0,0;", "s,0,0,0;", "s0,0,0,;", "s0,000,0,0;", "s", "sf0;", "f0:", "f/;", "f:;", "r:;", "r;;", "s0,:,0,0;", "s0,0,/,0;", "r1:;", "r3,", "f0f1;"
        };
        for (String text : first) {
            due("4 " + text, Checks.written(text).fault(), 0);
            due("4 f0;r12;" + text, Checks.written("f0;r12;" + text).fault(), 7);
        }
        due("4 the tenth saying", Checks.written(nine + "f0;s0,0,0,0;f9;").fault(), 84);
        due("4 a ; too many", Checks.written("f0;;f1;").fault(), 3);
        LieForce force = Checks.written("f0;s");
        String stood = Checks.stand(force);
        due("4 the open one", force.fault(), 3);
        due("4 nothing changes", Checks.stand(force).equals(stood) ? 1 : 0, 1);
    }

    /** For each number of each ITEM the last ones that are told and the first that are not. */
    private static void numbersAtTheirBounds() {
        bounds("f", ";", 0, 5);
        bounds("r", ";", 1, 20);
        bounds("s", ",0,0,0;", 0, 4);
        for (int kind = 0; kind <= 4; kind++) {
            bounds("s" + kind + ",", ",0,0;", 0, 11);
            bounds("s" + kind + ",0,", ",0;", 0, 11);
            bounds("s" + kind + ",0,0,", ";", 0, 5);
        }
    }

    private static void bounds(String ahead, String behind, int lowest, int highest) {
        for (int number = 0; number <= 99; number++) {
            int want = number >= lowest && number <= highest ? LieForce.NONE : 0;
            due("4 " + ahead + number + behind, Checks.written(ahead + number + behind).fault(), want);
            if (number > 9) continue;
            due("4 " + ahead + "0" + number + behind, Checks.written(ahead + "0" + number + behind).fault(), want);
            due("4 " + ahead + "00" + number + behind, Checks.written(ahead + "00" + number + behind).fault(), 0);
        }
        due("4 " + ahead + "-1" + behind, Checks.written(ahead + "-1" + behind).fault(), 0);
    }

    private static void theFirstFault() {
        due("4 of two faults", Checks.written("f0;f6;f7;").fault(), 3);
        due("4 at once", Checks.written("x").fault(), 0);
        due("4 a number ahead of a sign", Checks.written("r1;r21;;").fault(), 3);
        due("4 the last item", Checks.written("f0;s0,0,0,0;r0;").fault(), 12);
        String letters = "fsr";
        for (int letter = 32; letter <= 126; letter++) {
            String numbers = letter == 's' ? "0,0,0,0;" : "1;";
            int want = letters.indexOf(letter) >= 0 ? LieForce.NONE : 4;
            due("4 an item of " + letter, Checks.written("f05;" + (char) letter + numbers).fault(), want);
        }
    }

    private static void factsToldAgain() {
        for (int f = 0; f < 6; f++) {
            for (int times = 0; times <= 4; times++) {
                LieForce force = Checks.laid("s0,0,0,0;" + ("f" + f + ";").repeat(times));
                due("5 fact " + f + " told " + times + " times", force.fact(f), times % 2);
                due("5 no other one " + f + " " + times, force.count(5), times % 2);
            }
        }
    }

    private static void laying() {
        String[] none = {"", "f0;f1;r3;", "s0,0,0,0;f", "s0,0,0,9;", "f6;s0,0,0,0;"};
        for (String text : none) {
            LieForce force = Checks.written(text);
            String stood = Checks.stand(force);
            due("5 " + text, force.lay(), LieForce.NO);
            due("5 nothing changes by " + text, Checks.stand(force).equals(stood) ? 1 : 0, 1);
        }
        LieForce force = Checks.laid("f1;f3;s3,11,02,5;f1;f1;f3;r7;r2;s0,3,4,1;");
        due("5 how many", force.lay(), 2);
        due("5 the text stays", force.count(9), 41);
        due("5 facts told again", force.fact(1) * 10 + force.fact(3), 10);
        due("5 two figures", force.saying(0, 1) * 100 + force.saying(0, 2), 1102);
        force.pass(1);
        due("5 by the last r not yet", force.count(3), 0);
        force.pass(1);
        due("5 by the last r", force.count(3), 2);
        LieForce usual = Checks.laid("s0,0,0,0;");
        usual.pass(4);
        due("5 four days by no r", usual.count(3), 0);
        usual.pass(1);
        due("5 five days by no r", usual.count(3), 1);
    }

    private static void layingAsManyAsThereCanBe() {
        String text = "f0;";
        for (int sayings = 1; sayings <= 9; sayings++) {
            text += "s0,0,0,0;";
            LieForce force = Checks.written(text);
            due("5 lay() of " + sayings, force.lay(), sayings);
            due("5 how many of " + sayings, force.count(0), sayings);
        }
        LieForce ten = Checks.written(text + "s0,0,0,0;");
        due("5 lay() of ten", ten.lay(), LieForce.NO);
        due("5 as at first", ten.count(0), 8);
    }

    /** R DAYS by the ITEM r: none has served them a DAY ahead, all have on the DAY. */
    private static void terms() {
        String[] items = {"r1;", "r20;", "", "r20;r1;", "r1;r20;", "r2;r3;"};
        int[] terms = {1, 20, 5, 1, 20, 3};
        for (int i = 0; i < items.length; i++) {
            LieForce force = Checks.laid("s0,0,0,0;" + items[i]);
            if (terms[i] > 1) force.pass(terms[i] - 1);
            due("5 a day ahead by " + items[i], force.count(3), 0);
            force.pass(1);
            due("5 on the day by " + items[i], force.count(3), 1);
            force.pass(1);
            due("5 behind the day by " + items[i], force.count(3), 1);
        }
    }

    private static void layingClearsWhatWas() {
        LieForce force = Checks.laid("f0;s0,0,0,0;s0,1,0,1;r3;");
        String stood = Checks.stand(force);
        force.pass(2);
        force.withdraw(0);
        force.turn(3);
        force.say(1, 0, 0, 0);
        force.see(1, true);
        force.keep();
        due("5 laid again", force.lay(), 2);
        due("5 as at first", Checks.stand(force).equals(stood) ? 1 : 0, 1);
        due("5 days", force.count(4), 0);
        due("5 served", force.saying(1, 6), 0);
        due("5 nothing kept", force.back(), LieForce.NO);
        due("5 nothing undone", force.undo(), LieForce.NO);
        due("5 nothing seen", force.forget(), 0);
    }

    /** What was asked of days to come, or read ahead, leaves nothing in what is laid then. */
    private static void layingAfterLookingAhead() {
        LieForce force = Checks.laid("f3;s1,0,6,0;s1,1,7,1;s1,2,8,2;s1,3,9,3;r2;");
        force.behind(60);
        force.year(5, 60, 0);
        force.pass(1);
        force.fall(0);
        force.wipe();
        Checks.write(force, "s0,0,0,0;s0,1,0,1;s0,2,0,2;s0,3,0,3;");
        due("5 laid anew", force.lay(), 4);
        LieForce alone = Checks.laid("s0,0,0,0;s0,1,0,1;s0,2,0,2;s0,3,0,3;");
        due("5 as if alone", Checks.stand(force).equals(Checks.stand(alone)) ? 1 : 0, 1);
        force.pass(4);
        due("5 by the usual term", force.count(3), 0);
        force.pass(1);
        due("5 served by it", force.count(3), 4);
    }

    private static void sayings() {
        LieForce force = Checks.laid("f2;s0,1,7,3;s2,8,5,4;s1,2,9,5;r2;");
        int[][] want = {{0, 1, -4, 3, 0, 0, 0}, {2, 8, 5, 4, 0, 0, 0}, {1, 2, 9, 5, 1, 0, -4}};
        for (int s = 0; s < 3; s++) {
            for (int what = 0; what < 7; what++) due("6 saying(" + s + ", " + what + ")", force.saying(s, what), want[s][what]);
            for (int what : Checks.outside(0, 6)) due("6 what " + what, force.saying(s, what), LieForce.BAD);
        }
        for (int s : Checks.outside(0, 2)) due("6 s " + s, force.saying(s, 0), LieForce.BAD);
        force.pass(7);
        due("6 served", force.saying(1, 6), 7);
        force.withdraw(2);
        due("6 withdrawn", force.saying(2, 5), 1);
        due("6 withdrawn ones may be so", force.saying(2, 4), 1);
        force.turn(2);
        due("6 withdrawn ones may be not so", force.saying(2, 4), 0);
        due("6 withdrawn ones have no policeman", force.saying(2, 6), LieForce.NONE);
        due("6 one that has come to be so", force.saying(1, 6), LieForce.NONE);
        force.turn(2);
        due("6 served anew", force.saying(1, 6), 0);
        due("6 served on", force.saying(0, 6), 7);
    }

    /** A SAYING that is SAID is one, until it is UNDONE. */
    private static void sayingsSuchAsThereAre() {
        LieForce force = Checks.laid("s0,0,0,0;");
        due("6 not yet", force.saying(1, 0), LieForce.BAD);
        due("8 not yet", force.clash(0, 1), LieForce.BAD);
        force.say(0, 6, 0, 0);
        due("6 said", force.saying(1, 1), 6);
        due("8 said", force.clash(0, 1), 1);
        force.undo();
        due("6 undone", force.saying(1, 1), LieForce.BAD);
        due("8 undone", force.clash(1, 0), LieForce.BAD);
        due("11 undone", force.withdraw(1), LieForce.BAD);
        due("21 undone", force.see(1, false), LieForce.BAD);
        for (int s = 1; s <= 8; s++) force.say(2, 0, 0, 0);
        due("6 the ninth", force.saying(8, 0), 2);
        due("8 the ninth", force.clash(8, 0), 0);
        due("6 no tenth", force.saying(9, 0), LieForce.BAD);
        due("8 no tenth", force.clash(0, 9), LieForce.BAD);
    }

    /** Every kind by every two literals and every facts, each told by its words. */
    private static void truths() {
        for (int kind = 0; kind <= 4; kind++) {
            for (int a = 0; a < 12; a++) {
                for (int b = 0; b < 12; b++) truth(kind, a, b);
            }
        }
    }

    private static void truth(int kind, int a, int b) {
        LieForce force = Checks.laid("s" + kind + "," + a + "," + b + ",0;");
        int facts = 0;
        for (int turned = 0; turned <= 2; turned++) {
            boolean first = isSo(a, facts);
            boolean second = isSo(b, facts);
            boolean so = switch (kind) {
                case 0 -> first;
                case 1 -> first && second;
                case 2 -> first || second;
                case 3 -> !first || second;
                default -> first != second;
            };
            due("6 kind " + kind + " of " + a + ", " + b + " by " + facts, force.saying(0, 4), so ? 1 : 0);
            due("6 a lie by " + facts, force.saying(0, 6), so ? -4 : 0);
            int f = turned == 0 ? a % 6 : b % 6;
            force.turn(f);
            facts ^= 1 << f;
        }
    }

    private static boolean isSo(int literal, int facts) {
        return literal < 6 ? (facts >> literal & 1) == 1 : (facts >> (literal - 6) & 1) == 0;
    }

    private static void facts() {
        LieForce force = Checks.laid("f5;f0;s0,0,0,0;");
        int[] want = {1, 0, 0, 0, 0, 1};
        for (int f = 0; f < 6; f++) due("7 fact(" + f + ")", force.fact(f), want[f]);
        for (int f : Checks.outside(0, 5)) due("7 fact(" + f + ")", force.fact(f), LieForce.BAD);
        force.turn(5);
        due("7 turned", force.fact(5), 0);
    }

    private static void clashes() {
        LieForce force = Checks.laid("s0,0,0,0;s0,6,0,0;s1,1,7,0;s2,1,7,0;s4,0,1,0;s4,0,7,1;s3,0,6,2;s1,0,1,2;");
        String[] clashing = {"01", "02", "12", "23", "24", "25", "26", "27", "45", "17", "47", "67", "06"};
        for (int s = 0; s < 8; s++) {
            for (int t = 0; t < 8; t++) {
                int want = s == t ? LieForce.BAD : 0;
                for (String pair : clashing) if (pair.equals("" + Math.min(s, t) + Math.max(s, t))) want = 1;
                due("8 clash(" + s + ", " + t + ")", force.clash(s, t), want);
            }
            for (int t : Checks.outside(0, 7)) {
                due("8 clash(" + s + ", " + t + ")", force.clash(s, t), LieForce.BAD);
                due("8 clash(" + t + ", " + s + ")", force.clash(t, s), LieForce.BAD);
            }
        }
        due("8 two that are not there", force.clash(9, 9), LieForce.BAD);
        force.withdraw(0);
        due("8 a withdrawn one", force.clash(0, 1), 1);
    }

    /** A SAYING that never is so CLASHES with any other, one that always is with none of those that can be. */
    private static void clashesWithItself() {
        LieForce force = Checks.laid("s1,5,11,0;s2,5,11,0;s0,5,0,0;s1,4,10,0;");
        int[][] want = {{-1, 1, 1, 1}, {1, -1, 0, 1}, {1, 0, -1, 1}, {1, 1, 1, -1}};
        for (int s = 0; s < 4; s++) {
            for (int t = 0; t < 4; t++) due("8 never so " + s + " " + t, force.clash(s, t), want[s][t]);
        }
        force.turn(5);
        due("8 whatever facts there are", force.clash(0, 2), 1);
    }
}
