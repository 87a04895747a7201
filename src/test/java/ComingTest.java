/** Promises 14 to 20: what comes, and none of it changes how things stand. */
public final class ComingTest {
    private static final Checks checks = new Checks();

    public static void main(String[] args) {
        behind();
        behindTheDayOfTheFall();
        fall();
        fallOnALaterDay();
        fallAtTheBounds();
        core();
        cut();
        truest();
        lastOfNine();
        married();
        trial();
        trialFirstOfAll();
        trialTurns();
        nothingChanges();
        checks.end();
    }

    private static void due(String call, long got, long want) {
        checks.due(call, got, want);
    }

    private static void behind() {
        LieForce force = Checks.laid("s0,0,0,0;s1,0,1,1;s1,0,6,2;s0,6,0,3;r2;");
        due("14 behind(0)", force.behind(0), 7);
        due("14 behind(1)", force.behind(1), 7);
        due("14 behind(2)", force.behind(2), 2);
        due("14 behind(60)", force.behind(60), 2);
        for (int n : Checks.outside(0, 60)) due("14 behind(" + n + ")", force.behind(n), LieForce.BAD);
        force.pass(1);
        due("14 a day later", force.behind(1), 2);
        force.withdraw(2);
        due("14 one withdrawn", force.behind(60), 3);
        force.turn(0);
        due("14 facts turned", force.behind(0), 10);
    }

    private static void behindTheDayOfTheFall() {
        LieForce force = Checks.laid("s0,0,0,0;".repeat(7) + "s0,0,0,0;s1,0,6,0;r20;");
        due("14 all nine", force.behind(19), 511);
        due("14 without two of them", force.behind(20), 254);
        due("14 still without", force.behind(60), 254);
        due("14 one day ahead", force.behind(0), 511);
    }

    private static void fall() {
        LieForce force = Checks.laid("s0,0,0,0;s1,0,1,1;s1,0,6,2;r2;");
        due("15 which", force.fall(0), 2);
        due("15 on which day", force.fall(1), 2);
        for (int what : Checks.outside(0, 1)) due("15 fall(" + what + ")", force.fall(what), LieForce.BAD);
        force.pass(1);
        due("15 on the next", force.fall(1), 1);
        force.pass(1);
        due("15 none falls", force.fall(0), LieForce.NONE);
        due("15 on no day", force.fall(1), LieForce.NONE);
        due("15 bad comes ahead of none", force.fall(2), LieForce.BAD);
        // Two pairs on one day: the pair of the lowest number comes first.
        LieForce two = Checks.laid("f1;s0,0,0,0;s1,7,3,1;s1,1,9,1;s1,6,4,2;s0,7,0,3;s1,1,10,4;r20;");
        two.withdraw(5);
        due("15 the lower pair", two.fall(0), 3);
        due("15 by the longest term", two.fall(1), 20);
    }

    private static void fallOnALaterDay() {
        // 0 and 1 do not clash; who is said later falls with 1 once he has served.
        LieForce force = Checks.laid("s0,0,0,0;s0,1,0,1;r4;");
        force.pass(3);
        force.say(1, 7, 2, 2);
        due("15 the later pair", force.fall(0), 12);
        due("15 the later day", force.fall(1), 4);
        due("14 ahead of it", force.behind(3), 7);
        due("14 behind it", force.behind(4), 1);
    }

    private static void fallAtTheBounds() {
        String seven = "s0,6,0,0;".repeat(7);
        LieForce last = Checks.laid(seven + "s0,1,0,0;s1,7,0,0;r20;");
        due("15 the last two", last.fall(0), 78);
        due("15 after the longest term", last.fall(1), 20);
        LieForce first = Checks.laid("s1,0,1,0;s1,0,7,0;" + seven + "r1;");
        due("15 the first two", first.fall(0), 1);
        due("15 after the shortest term", first.fall(1), 1);
        last.pass(19);
        due("15 the next day", last.fall(1), 1);
        last.pass(1);
        due("15 they have fallen", last.fall(1), LieForce.NONE);
        LieForce far = Checks.laid("s0,1,0,0;" + seven + "s1,7,0,0;r5;");
        due("15 the first and the last", far.fall(0), 8);
        due("15 after the usual term", far.fall(1), 5);
        due("15 one that is so does not fall", Checks.laid("s0,6,0,0;s1,0,1,0;r1;").fall(0), LieForce.NONE);
    }

    private static void core() {
        LieForce force = Checks.laid("s0,0,0,0;s0,1,0,1;s4,0,1,2;s0,6,0,3;");
        due("16 two that clash", force.core(), 9);
        force.withdraw(3);
        due("16 three", force.core(), 7);
        force.withdraw(2);
        due("16 none", force.core(), LieForce.NONE);
        due("16 the lowest of its size", Checks.laid("s0,2,0,0;s0,0,0,0;s0,6,0,0;s0,8,0,0;").core(), 6);
        due("16 the fewest ahead of the lowest", Checks.laid("s0,0,0,0;s0,6,0,0;s1,1,7,0;").core(), 4);
        String nine = "s2,7,0,0;s2,10,7,0;s2,3,0,0;s2,11,8,0;s2,4,1,0;s2,10,9,0;s2,4,2,0;s2,6,5,0;s2,1,11,0;";
        due("16 nine", Checks.laid(nine).core(), 511);
        due("17 one of nine", Checks.laid(nine).cut(), 1);
        due("18 eight of nine", Checks.laid(nine).truest(0), 8);
        due("16 five", Checks.laid("s0,0,0,0;s3,0,1,0;s3,1,2,0;s3,2,3,0;s3,3,6,0;s0,5,0,0;").core(), 31);
    }

    private static void cut() {
        LieForce force = Checks.laid("s0,0,0,0;s0,1,0,1;s4,0,1,2;s0,6,0,3;");
        due("17 one", force.cut(), 1);
        force.withdraw(3);
        due("17 one of three", force.cut(), 1);
        force.withdraw(2);
        due("17 none is needed", force.cut(), 0);
        due("17 the fewest", Checks.laid("s0,0,0,0;s1,0,1,0;s0,6,0,0;").cut(), 4);
        due("17 the lowest", Checks.laid("s0,6,0,0;s0,0,0,0;s0,7,0,0;s0,1,0,0;").cut(), 5);
        due("17 those that never are so", Checks.laid("s1,0,6,0;s0,0,0,0;s4,1,1,0;").cut(), 5);
        String never = "s1,0,6,0;s1,1,7,0;s1,2,8,0;s1,3,9,0;s1,0,6,0;s1,1,7,0;s1,2,8,0;s1,3,9,0;";
        due("17 eight of nine", Checks.laid(never + "s0,0,0,0;").cut(), 255);
        due("17 nine of nine", Checks.laid(never + "s1,0,6,0;").cut(), 511);
        LieForce none = Checks.laid("s0,0,0,0;");
        none.withdraw(0);
        due("17 all are withdrawn", none.cut(), 0);
        due("16 all are withdrawn", none.core(), LieForce.NONE);
    }

    private static void truest() {
        LieForce force = Checks.laid("s0,0,0,0;s0,1,0,1;s4,0,1,2;s0,6,0,3;");
        due("18 how many", force.truest(0), 3);
        due("18 by which", force.truest(1), 2);
        for (int what : Checks.outside(0, 1)) due("18 truest(" + what + ")", force.truest(what), LieForce.BAD);
        force.withdraw(3);
        due("18 without one", force.truest(0), 2);
        due("18 the lowest", force.truest(1), 1);
        due("18 every fact", Checks.laid("s1,0,1,0;s1,2,3,0;s1,4,5,0;").truest(1), 63);
        LieForce none = Checks.laid("s0,0,0,0;");
        none.withdraw(0);
        due("18 none is left", none.truest(0) + none.truest(1), 0);
    }

    private static void lastOfNine() {
        String eight = "s0,0,0,0;".repeat(8);
        due("16 the ninth alone", Checks.laid(eight + "s1,1,7,0;").core(), 256);
        due("17 the ninth alone", Checks.laid(eight + "s1,1,7,0;").cut(), 256);
        due("16 the last two", Checks.laid("s0,0,0,0;".repeat(7) + "s0,1,0,0;s0,7,0,0;").core(), 384);
        due("17 the lower of the last two", Checks.laid("s0,0,0,0;".repeat(7) + "s0,1,0,0;s0,7,0,0;").cut(), 128);
        due("18 nine of nine", Checks.laid(eight + "s0,11,0,0;").truest(0), 9);
        due("18 none of nine", Checks.laid("s1,1,7,0;".repeat(9)).truest(0), 0);
        due("18 by no facts", Checks.laid("s1,1,7,0;".repeat(9)).truest(1), 0);
        due("16 the lowest of nine", Checks.laid("s1,1,7,0;".repeat(9)).core(), 1);
    }

    private static void married() {
        due("19 unlike persons", Checks.laid("s0,0,0,0;s0,1,0,0;s0,2,0,1;s0,8,0,2;").married(), 1);
        due("19 one person", Checks.laid("s0,0,0,0;s0,1,0,0;").married(), 0);
        due("19 those that clash", Checks.laid("s1,0,1,0;s1,0,7,1;").married(), 0);
        due("19 not the first pair there is", Checks.laid("s0,0,0,0;s0,2,0,1;s1,8,1,2;s1,6,1,2;").married(), 2);
        LieForce nine = Checks.laid("s0,0,0,0;s0,0,0,1;s0,0,0,2;s0,0,0,3;s0,0,0,4;s0,0,0,5;s0,0,0,0;s0,0,0,1;s0,0,0,2;");
        due("19 four of nine", nine.married(), 4);
        nine.withdraw(0);
        nine.withdraw(1);
        due("19 without those withdrawn", nine.married(), 3);
        nine.turn(0);
        due("19 no policemen", nine.married(), 0);
        due("19 one policeman", Checks.laid("s0,0,0,0;").married(), 0);
        due("19 the last two", Checks.laid("s0,6,0,0;".repeat(7) + "s0,0,0,4;s0,1,0,5;").married(), 1);
    }

    private static void trial() {
        LieForce force = Checks.laid("s0,0,0,0;s0,0,0,1;s0,6,0,2;");
        long[] outcomes = {2, 1, 2, 1};
        for (int n = 1; n <= 4; n++) {
            due("20 trial(" + n + ", 0)", force.trial(n, 0), outcomes[n - 1]);
            due("20 trial(" + n + ", 1)", force.trial(n, 1), LieForce.NONE);
        }
        for (int n : Checks.outside(1, 4)) due("20 trial(" + n + ", 0)", force.trial(n, 0), LieForce.BAD);
        for (int what : Checks.outside(0, 1)) due("20 trial(1, " + what + ")", force.trial(1, what), LieForce.BAD);
        force.turn(0);
        due("20 turned", force.trial(1, 0), 2);
        due("20 turned, which first", force.trial(1, 1), 0);
        due("20 the lowest", Checks.laid("f3;s0,3,0,0;f4;s0,4,0,1;").trial(1, 1), 3);
        LieForce last = Checks.laid("f0;f1;f2;f3;f4;f5;s1,0,5,0;s1,1,5,1;s0,5,0,2;");
        due("20 from the last world", last.trial(1, 0), 3);
        due("20 which first there", last.trial(1, 1), 5);
        due("20 two turns there, one taken back", last.trial(2, 0), 0);
        due("20 three turns there", last.trial(3, 0), 3);
        LieForce toTheLast = Checks.laid("f0;f1;f2;f3;f4;s0,11,0,0;");
        due("20 to the last world", toTheLast.trial(1, 0), 1);
        due("20 which first to it", toTheLast.trial(1, 1), 5);
        due("20 both of two turns", Checks.laid("f3;s0,3,0,0;f4;s0,4,0,1;").trial(3, 0), 1);
    }

    /** None is told ahead of the lowest FACT, a lower FACT ahead of a higher one, FACT 5 as well as FACT 0. */
    private static void trialFirstOfAll() {
        due("20 none, for all is as good", Checks.laid("s1,0,6,0;").trial(1, 1), LieForce.NONE);
        due("20 none, with four turns", Checks.laid("s1,0,6,0;").trial(4, 1), LieForce.NONE);
        due("20 the lowest one", Checks.laid("f0;f5;s1,0,5,0;").trial(1, 1), 0);
        due("20 the highest one", Checks.laid("f5;s0,5,0,0;").trial(1, 1), 5);
        due("20 the only one", Checks.laid("f2;s2,2,5,0;").trial(1, 1), 2);
        due("20 as many as there can be", Checks.laid("f0;" + "s0,0,0,0;".repeat(9)).trial(1, 0), 9);
        due("20 as few as there can be", Checks.laid("s2,0,6,0;").trial(4, 0), 0);
    }

    /** Worked out by going through all turns, each way on a force of its own. */
    private static void trialTurns() {
        for (int n = 1; n <= 4; n++) {
            int wanted = played("", n, true);
            due("20 played " + n, new LieForce().trial(n, 0), wanted);
            int first = LieForce.NONE;
            for (int f = 5; f >= 0; f--) if (played("" + f, n - 1, false) == wanted) first = f;
            if (played("", n - 1, false) == wanted) first = LieForce.NONE;
            due("20 played first " + n, new LieForce().trial(n, 1), first);
        }
    }

    private static int played(String turned, int left, boolean most) {
        if (left == 0) return behindTurns(turned);
        int best = played(turned, left - 1, !most);
        for (int f = 0; f < 6; f++) {
            int other = played(turned + f, left - 1, !most);
            best = most ? Math.max(best, other) : Math.min(best, other);
        }
        return best;
    }

    private static int behindTurns(String turned) {
        LieForce force = new LieForce();
        for (int i = 0; i < turned.length(); i++) force.turn(turned.charAt(i) - '0');
        return force.count(2);
    }

    private static void nothingChanges() {
        LieForce force = new LieForce();
        force.pass(2);
        force.see(0, true);
        String stood = Checks.stand(force);
        force.behind(60);
        force.fall(0);
        force.core();
        force.cut();
        force.truest(0);
        force.married();
        force.trial(4, 0);
        due("14 to 20 change nothing", Checks.stand(force).equals(stood) ? 1 : 0, 1);
    }
}
