/** Promises 9 to 13: DAYS that go by, SAYINGS said and withdrawn, FACTS that turn, what is UNDONE. */
public final class DaysTest {
    private static final Checks checks = new Checks();

    public static void main(String[] args) {
        passing();
        comingToBeOne();
        servingAtLeastR();
        fallingInOrder();
        servingLong();
        sayingOne();
        sayingAtTheBounds();
        sayingPlain();
        withdrawing();
        withdrawingADayAhead();
        turning();
        undoing();
        undoingTheLastEight();
        undoingManyDaysAtOnce();
        undoingASaying();
        whatIsNoneToUndo();
        checks.end();
    }

    private static void due(String call, long got, long want) {
        checks.due(call, got, want);
    }

    private static void unchanged(String call, LieForce force, String stood) {
        due(call + ": nothing changes", Checks.stand(force).equals(stood) ? 1 : 0, 1);
    }

    private static void passing() {
        LieForce force = new LieForce();
        String stood = Checks.stand(force);
        for (int n : Checks.outside(1, 30)) due("9 pass(" + n + ")", force.pass(n), LieForce.BAD);
        unchanged("9 bad", force, stood);
        due("9 pass(1)", force.pass(1), 1);
        due("9 pass(30)", force.pass(30), 31);
        due("9 all that go by", force.count(4), 31);
        due("9 two times", force.count(7), 2);
    }

    /** A POLICEMAN has served no DAYS when he comes to be one, however that comes. */
    private static void comingToBeOne() {
        LieForce force = Checks.laid("s0,0,0,0;s0,6,0,1;r9;");
        due("2 laid", force.saying(0, 6), 0);
        due("2 one that is so", force.saying(1, 6), LieForce.NONE);
        force.pass(3);
        due("2 said", force.saying(force.say(0, 1, 0, 2), 6), 0);
        due("2 the one that was there", force.saying(0, 6), 3);
        force.pass(2);
        force.turn(0);
        due("2 by a fact", force.saying(1, 6), 0);
        due("2 gone by it", force.saying(0, 6), LieForce.NONE);
        due("2 untouched by it", force.saying(2, 6), 2);
        force.pass(1);
        force.turn(0);
        due("2 come anew", force.saying(0, 6), 0);
        due("2 gone anew", force.saying(1, 6), LieForce.NONE);
        force.withdraw(2);
        due("2 gone, for it is withdrawn", force.saying(2, 6), LieForce.NONE);
        force.pass(1);
        due("2 a day more", force.saying(0, 6), 1);
    }

    /** Two that CLASH FALL THROUGH on the DAY on which the later one has served R DAYS. */
    private static void servingAtLeastR() {
        for (int r = 1; r <= 20; r++) {
            LieForce force = Checks.laid("s1,0,1,0;r" + r + ";");
            force.pass(1);
            force.say(1, 0, 7, 0);
            if (r > 1) force.pass(r - 1);
            due("9 one day ahead of " + r, force.count(1), 0);
            force.pass(1);
            due("9 on day " + r, force.count(1), 2);
            due("9 none is left of " + r, force.count(2), 0);
        }
    }

    private static void fallingInOrder() {
        // 0 and 2 clash, 1 and 2 clash, 0 and 1 do not: 1 is left over.
        LieForce force = Checks.laid("s0,0,0,0;s1,0,1,1;s1,0,6,2;r2;");
        force.pass(1);
        due("9 none falls ahead of R", force.count(1), 0);
        force.pass(1);
        due("9 the two", 10 * force.saying(0, 5) + force.saying(2, 5), 11);
        due("9 who is left", force.saying(1, 6), 2);
        LieForce five = Checks.laid("s1,0,6,0;s1,0,6,0;s1,0,6,0;s1,0,6,0;s1,0,6,0;r1;");
        five.pass(1);
        due("9 two by two", five.count(1), 4);
        due("9 the last one is left", five.saying(4, 6), 1);
        // 0 clashes with 5, 1 with 2, 2 with 4 too: 1 comes first to 2, so that 4 is left.
        LieForce crossed = Checks.laid("s0,0,0,0;s1,1,2,1;s1,7,3,1;s2,6,7,2;s1,9,4,3;r1;");
        due("9 crossed, three is so", crossed.withdraw(3), 4);
        crossed.say(1, 6, 4, 4);
        crossed.pass(1);
        due("9 crossed", crossed.behind(0), 16);
    }

    private static void servingLong() {
        LieForce force = Checks.laid("s0,0,0,0;r20;");
        force.pass(19);
        due("9 nineteen", force.count(3), 0);
        force.say(1, 0, 1, 1);
        force.pass(30);
        due("9 the later one has served too, but does not clash", force.count(1), 0);
        force.say(1, 6, 2, 1);
        force.pass(19);
        due("9 the latest has served nineteen", force.count(1), 0);
        force.pass(1);
        due("9 now it falls with the lowest that clashes", 10 * force.saying(0, 5) + force.saying(2, 5), 11);
        due("9 the other one stays", force.saying(1, 6), 50);
    }

    private static void sayingOne() {
        LieForce force = Checks.laid("f0;s0,0,0,0;");
        String stood = Checks.stand(force);
        for (int kind : Checks.outside(0, 4)) due("10 kind " + kind, force.say(kind, 0, 0, 0), LieForce.BAD);
        for (int a : Checks.outside(0, 11)) due("10 a " + a, force.say(0, a, 0, 0), LieForce.BAD);
        for (int b : Checks.outside(0, 11)) due("10 b " + b, force.say(1, 0, b, 0), LieForce.BAD);
        for (int p : Checks.outside(0, 5)) due("10 person " + p, force.say(0, 0, 0, p), LieForce.BAD);
        unchanged("10 bad", force, stood);
        due("10 say", force.say(4, 11, 0, 5), 1);
        int[] want = {4, 11, 0, 5, 0, 0, 0};
        for (int what = 0; what < 7; what++) due("10 saying(1, " + what + ")", force.saying(1, what), want[what]);
        for (int s = 2; s < 9; s++) due("10 say " + s, force.say(1, 0, 0, 0), s);
        force.withdraw(3);
        due("10 full, with those withdrawn", force.say(0, 0, 0, 0), LieForce.FULL);
        due("10 bad comes ahead of full", force.say(0, 0, 0, 6), LieForce.BAD);
        due("10 how many", force.count(0), 9);
        int undoable = force.undo();
        force.say(0, 0, 0, 0);
        due("10 full is nothing to undo", force.count(7), undoable);
    }

    private static void sayingAtTheBounds() {
        for (int kind = 0; kind <= 4; kind++) {
            LieForce force = Checks.laid("s0,0,0,0;");
            due("10 the lowest of kind " + kind, force.say(kind, 0, 0, 0), 1);
            due("10 the highest of kind " + kind, force.say(kind, 11, 11, 5), 2);
            int[] want = {kind, 11, kind == 0 ? LieForce.NONE : 11, 5};
            for (int what = 0; what < 4; what++) due("10 kind " + kind + " saying(2, " + what + ")", force.saying(2, what), want[what]);
        }
        LieForce nine = Checks.laid("s0,0,0,0;".repeat(9));
        due("10 nine are laid", nine.say(1, 0, 0, 0), LieForce.FULL);
        due("10 plain looks at no b, also when full", nine.say(0, 0, 12, 0), LieForce.FULL);
        due("10 the others look at b, also when full", nine.say(1, 0, 12, 0), LieForce.BAD);
        LieForce eight = Checks.laid("s0,0,0,0;".repeat(8));
        due("10 the ninth", eight.say(1, 0, 0, 0), 8);
        due("10 no tenth", eight.say(1, 0, 0, 0), LieForce.FULL);
    }

    private static void sayingPlain() {
        LieForce force = Checks.laid("s0,0,0,0;");
        int s = 1;
        for (int b : Checks.outside(0, 11)) due("10 plain, b " + b, force.say(0, 6, b, 1), s++);
        due("10 plain has no b", force.saying(1, 2), LieForce.NONE);
        due("10 plain is so", force.saying(1, 4), 1);
    }

    private static void withdrawing() {
        LieForce force = Checks.laid("s0,0,0,0;s0,6,0,1;s0,1,0,2;r2;");
        String stood = Checks.stand(force);
        for (int s : Checks.outside(0, 2)) due("11 withdraw(" + s + ")", force.withdraw(s), LieForce.BAD);
        unchanged("11 bad", force, stood);
        due("11 one that is so", force.withdraw(1), 2);
        due("11 it is already", force.withdraw(1), LieForce.NO);
        force.pass(1);
        due("11 one who has served fewer", force.withdraw(2), 1);
        force.pass(1);
        stood = Checks.stand(force);
        due("11 one who has served", force.withdraw(0), LieForce.NO);
        unchanged("11 no", force, stood);
        force.turn(0);
        due("11 he is gone", force.withdraw(0), 0);
        due("11 all are withdrawn", force.count(1), 3);
    }

    /** He who has served R DAYS less one may be sent away, he who has served R not. */
    private static void withdrawingADayAhead() {
        int[] terms = {1, 2, 5, 20};
        for (int r : terms) {
            LieForce force = Checks.laid("s0,0,0,0;s0,0,0,0;s0,6,0,0;r" + r + ";");
            if (r > 1) force.pass(r - 1);
            due("11 a day ahead of " + r, force.withdraw(0), 1);
            force.pass(1);
            due("11 on day " + r, force.withdraw(1), LieForce.NO);
            due("11 without policeman on day " + r, force.withdraw(2), 1);
            force.pass(1);
            due("11 behind day " + r, force.withdraw(1), LieForce.NO);
            due("11 already on day " + r, force.withdraw(0), LieForce.NO);
        }
    }

    private static void turning() {
        LieForce force = Checks.laid("s0,0,0,0;s0,6,0,1;s0,1,0,2;r3;");
        String stood = Checks.stand(force);
        for (int f : Checks.outside(0, 5)) due("12 turn(" + f + ")", force.turn(f), LieForce.BAD);
        unchanged("12 bad", force, stood);
        force.pass(2);
        due("12 turn(0)", force.turn(0), 2);
        due("12 the new one", force.saying(1, 6), 0);
        due("12 the one that was", force.saying(0, 6), LieForce.NONE);
        due("12 the one that stays", force.saying(2, 6), 2);
        due("12 turn(1)", force.turn(1), 1);
        due("12 turn(0) again", force.turn(0), 1);
        due("12 he has served no days", force.saying(0, 6), 0);
        due("12 turn(5)", force.turn(5), 1);
        force.withdraw(0);
        due("12 a withdrawn one gets none", force.turn(5), 0);
    }

    private static void undoing() {
        LieForce force = Checks.laid("f1;s0,0,0,0;s0,6,0,1;s1,0,6,2;s1,1,7,3;r2;");
        String[] stood = new String[4];
        stood[0] = Checks.stand(force);
        force.say(0, 1, 0, 0);
        stood[1] = Checks.stand(force);
        force.withdraw(4);
        stood[2] = Checks.stand(force);
        force.turn(0);
        stood[3] = Checks.stand(force);
        force.pass(3);
        due("13 two have fallen", force.count(1), 3);
        for (int left = 3; left >= 0; left--) {
            due("13 undo() to " + left, force.undo(), left);
            due("13 as it was at " + left, Checks.stand(force).equals(stood[left]) ? 1 : 0, 1);
        }
        due("13 no more", force.undo(), LieForce.NO);
        due("13 no is no undoing", force.count(0), 4);
    }

    private static void undoingTheLastEight() {
        LieForce force = Checks.laid("s0,0,0,0;");
        for (int day = 1; day <= 11; day++) {
            force.pass(1);
            due("13 that can be", force.count(7), Math.min(day, 8));
        }
        for (int left = 7; left >= 0; left--) {
            due("13 undo()", force.undo(), left);
            due("13 days then", force.count(4), 3 + left);
            due("13 served then", force.saying(0, 6), 3 + left);
        }
        due("13 no ninth", force.undo(), LieForce.NO);
        force.turn(1);
        due("13 a new one", force.undo(), 0);
        due("13 turned again", force.fact(1), 0);
    }

    private static void undoingManyDaysAtOnce() {
        LieForce force = Checks.laid("s0,0,0,0;s1,0,0,1;r20;");
        force.pass(2);
        force.pass(30);
        due("13 two times", force.count(7), 2);
        due("13 undo() of thirty", force.undo(), 1);
        due("13 days then", force.count(4), 2);
        due("13 served then", force.saying(0, 6), 2);
        due("13 undo() of two", force.undo(), 0);
        due("13 no days", force.count(4), 0);
    }

    private static void undoingASaying() {
        LieForce force = Checks.laid("s0,0,0,0;".repeat(8));
        due("13 the ninth", force.say(1, 6, 7, 5), 8);
        due("13 undo() of it", force.undo(), 0);
        due("13 eight again", force.count(0), 8);
        due("13 room again", force.say(4, 2, 3, 4), 8);
        int[] want = {4, 2, 3, 4, 0, 0, 0};
        for (int what = 0; what < 7; what++) due("13 saying(8, " + what + ")", force.saying(8, what), want[what]);
        force.withdraw(8);
        force.undo();
        due("13 withdrawn no more", force.saying(8, 5), 0);
        due("13 its policeman is back", force.saying(8, 6), 0);
    }

    private static void whatIsNoneToUndo() {
        LieForce force = new LieForce();
        force.see(0, true);
        force.keep();
        force.write('f');
        force.withdraw(9);
        force.say(9, 9, 9, 9);
        force.turn(7);
        force.pass(0);
        force.year(0, 60, 0);
        due("13 nothing of these", force.undo(), LieForce.NO);
        force.turn(0);
        force.see(1, true);
        force.keep();
        force.write('f');
        due("13 the turning alone", force.undo(), 0);
        due("13 seen stays", force.count(6), 2);
        due("13 kept stays", force.count(8), 2);
        due("13 the text stays", force.count(9), 2);
    }
}
