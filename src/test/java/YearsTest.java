/** Promises 26 to 30: mornings by CHANCE, YEARS by DRAWS, what is KEPT, how many there are. */
public final class YearsTest {
    private static final Checks checks = new Checks();

    public static void main(String[] args) {
        chance();
        chanceOfNineAndNone();
        chanceBounds();
        year();
        yearByTheCalls();
        yearBounds();
        keep();
        back();
        backWithNothingSeen();
        count();
        countAtTheBounds();
        constants();
        checks.end();
    }

    private static void due(String call, long got, long want) {
        checks.due(call, got, want);
    }

    private static void chances(LieForce force, int k, int x, long above, long below) {
        due("26 chance(" + k + ", " + x + ", 0)", force.chance(k, x, 0), above);
        due("26 chance(" + k + ", " + x + ", 1)", force.chance(k, x, 1), below);
    }

    private static void chance() {
        LieForce force = Checks.laid("s0,0,0,0;");
        chances(force, 0, 3, 1, 1);
        chances(force, 1, 0, 1, 1);
        chances(force, 1, 3, 7, 10);
        chances(force, 1, 4, 3, 5);
        chances(force, 1, 10, 0, 1);
        chances(force, 2, 3, 0, 1);
        chances(force, 9, 5, 0, 1);
        force.turn(0);
        chances(force, 1, 3, 3, 10);
        chances(force, 1, 10, 1, 1);
        force.withdraw(0);
        chances(force, 1, 5, 0, 1);
        LieForce two = Checks.laid("s0,0,0,0;s0,1,0,1;");
        chances(two, 2, 5, 1, 4);
        chances(two, 1, 5, 3, 4);
        chances(two, 1, 1, 99, 100);
        // Just so by all six facts, each of which turns by one of ten: a million in all.
        chances(Checks.laid("s1,0,1,0;s1,2,3,0;s1,4,5,0;"), 3, 1, 970299, 1000000);
    }

    private static void chanceOfNineAndNone() {
        LieForce nine = Checks.laid("s0,0,0,0;".repeat(9));
        chances(nine, 9, 0, 1, 1);
        chances(nine, 9, 2, 4, 5);
        chances(nine, 9, 10, 0, 1);
        chances(nine, 0, 10, 1, 1);
        chances(nine, 0, 0, 1, 1);
        LieForce none = Checks.laid("s0,6,0,0;");
        chances(none, 0, 5, 1, 1);
        chances(none, 1, 0, 0, 1);
        chances(none, 1, 9, 9, 10);
        // All six turn at once, or none does.
        chances(Checks.laid("f0;f1;f2;f3;f4;f5;s2,0,1,0;s2,2,3,0;s2,4,5,0;"), 3, 1, 1, 1000000);
        chances(Checks.laid("f0;f1;f2;f3;f4;f5;s2,0,1,0;s2,2,3,0;s2,4,5,0;"), 3, 10, 1, 1);
    }

    private static void chanceBounds() {
        LieForce force = new LieForce();
        String stood = Checks.stand(force);
        for (int k : Checks.outside(0, 9)) due("26 k " + k, force.chance(k, 1, 0), LieForce.BAD);
        for (int x : Checks.outside(0, 10)) due("26 x " + x, force.chance(1, x, 0), LieForce.BAD);
        for (int part : Checks.outside(0, 1)) due("26 part " + part, force.chance(1, 1, part), LieForce.BAD);
        due("26 nothing changes", Checks.stand(force).equals(stood) ? 1 : 0, 1);
    }

    private static void years(LieForce force, int z, int n, long policemen, long fallen) {
        due("27 year(" + z + ", " + n + ", 0)", force.year(z, n, 0), policemen);
        due("27 year(" + z + ", " + n + ", 1)", force.year(z, n, 1), fallen);
    }

    private static void year() {
        // z 0, k 0: the draw is 1, so FACT 1 turns and SAYING 0 is withdrawn, for it is so then.
        LieForce force = Checks.laid("s0,1,0,0;s0,7,0,1;s0,0,0,2;r1;");
        years(force, 0, 1, 2, 0);
        force.pass(1);
        years(force, 0, 1, 2, 0);
        // z 1, k 0: the draw is 22803, so FACT 3 turns and nothing is withdrawn.
        years(Checks.laid("s1,0,6,0;s1,1,7,1;s1,0,6,2;r1;"), 1, 1, 1, 2);
        years(Checks.laid("s0,3,0,0;s0,9,0,1;s0,9,0,2;r1;"), 1, 1, 2, 0);
        // Who has served can not be withdrawn by the draw either.
        LieForce served = Checks.laid("s0,0,0,0;r1;");
        years(served, 0, 1, 0, 0);
        served.pass(1);
        years(served, 0, 1, 1, 0);
    }

    /** The year gone through by the calls themselves, on forces made alike. */
    private static void yearByTheCalls() {
        for (int z = 0; z <= 9999; z += 101) {
            LieForce asked = new LieForce();
            LieForce lived = new LieForce();
            asked.turn(z % 6);
            lived.turn(z % 6);
            int n = 1 + z % 60;
            long fallen = 0;
            for (int k = 0; k < n; k++) fallen += livedDay(lived, z, k);
            years(asked, z, n, lived.count(2), fallen);
        }
        LieForce last = new LieForce();
        for (int k = 0; k < 60; k++) livedDay(last, 9999, k);
        due("27 the last year", new LieForce().year(9999, 60, 0), last.count(2));
    }

    private static int livedDay(LieForce force, int z, int k) {
        long x = 7919L * z + 6151L * k + 1;
        int draw = (int) (x * x % 65521);
        if (draw / 8 % 3 == 0) force.turn(draw % 6);
        if (draw / 1024 % 5 == 0) force.withdraw(draw / 64 % force.count(0));
        int withdrawn = force.count(1);
        force.pass(1);
        return force.count(1) - withdrawn;
    }

    private static void yearBounds() {
        LieForce force = new LieForce();
        force.pass(1);
        String stood = Checks.stand(force);
        for (int z : Checks.outside(0, 9999)) due("27 z " + z, force.year(z, 1, 0), LieForce.BAD);
        for (int n : Checks.outside(1, 60)) due("27 n " + n, force.year(1, n, 0), LieForce.BAD);
        for (int what : Checks.outside(0, 1)) due("27 what " + what, force.year(1, 1, what), LieForce.BAD);
        force.year(7, 60, 1);
        due("27 nothing changes", Checks.stand(force).equals(stood) ? 1 : 0, 1);
    }

    private static void keep() {
        LieForce force = new LieForce();
        due("28 one", force.keep(), 1);
        due("28 two", force.keep(), 2);
        due("28 full", force.keep(), LieForce.FULL);
        due("28 two are kept", force.count(8), 2);
        force.back();
        due("28 room again", force.keep(), 2);
        force.turn(0);
        force.keep();
        force.back();
        due("28 what was full kept nothing", force.fact(0), 1);
    }

    private static void back() {
        LieForce force = Checks.laid("f1;s0,0,0,0;s1,1,7,1;r2;");
        due("29 nothing is kept", force.back(), LieForce.NO);
        force.pass(1);
        force.say(1, 0, 6, 2);
        String first = Checks.stand(force);
        force.keep();
        force.undo();
        force.say(4, 3, 4, 5);
        force.pass(3);
        force.keep();
        force.turn(0);
        force.withdraw(0);
        force.see(0, true);
        force.write('f');
        int letters = force.count(9);
        due("29 one is left", force.back(), 1);
        due("29 three days and one", force.count(4), 4);
        due("29 by whom", force.saying(2, 3), 5);
        due("29 facts", force.fact(0), 0);
        due("29 nothing can be undone", force.undo(), LieForce.NO);
        due("29 none counts", force.count(7), 0);
        due("29 seen stays", force.count(6), 1);
        due("29 the text stays", force.count(9), letters);
        due("29 none is left", force.back(), 0);
        force.forget();
        String then = Checks.stand(force);
        due("29 by whom at first", force.saying(2, 3), 2);
        due("29 served at first", force.saying(0, 6), 1);
        due("29 " + first + " / " + then, sayingsOf(first).equals(sayingsOf(then)) ? 1 : 0, 1);
        due("29 no more", force.back(), LieForce.NO);
        force.pass(1);
        due("29 on from there", force.count(4), 2);
        due("29 undone from there", force.undo(), 0);
    }

    private static String sayingsOf(String stood) {
        return stood.substring(stood.indexOf('|'));
    }

    /** What is KEPT comes back, but what is SEEN and THE TEXT stay as they are then. */
    private static void backWithNothingSeen() {
        LieForce force = Checks.laid("s0,0,0,0;s0,1,0,1;");
        force.see(0, true);
        force.keep();
        force.forget();
        force.wipe();
        due("29 back()", force.back(), 0);
        due("29 nothing is seen", force.count(6), 0);
        due("29 the text is empty", force.count(9), 0);
        force.keep();
        force.say(0, 8, 0, 2);
        force.see(2, true);
        due("29 one is seen", force.worlds(1), 4);
        due("29 back() again", force.back(), 0);
        due("29 it is seen of one that is not there", force.worlds(0), 0);
        due("29 room again", force.keep(), 1);
        due("29 two", force.keep(), 2);
        due("29 the second", force.back(), 1);
        due("29 the first", force.back(), 0);
        due("29 no third", force.back(), LieForce.NO);
    }

    private static void count() {
        LieForce force = Checks.laid("f1;f4;s0,0,0,0;s0,1,0,1;s1,0,6,2;s0,5,0,3;r2;");
        force.turn(2);
        force.withdraw(1);
        force.pass(1);
        force.say(1, 0, 7, 4);
        force.see(0, true);
        force.keep();
        force.pass(1);
        int[] want = {5, 3, 2, 1, 2, 3, 1, 5, 1, force.wipe()};
        due("30 the text was", want[9], 45);
        Checks.write(force, "f0");
        want[9] = 2;
        for (int what = 0; what <= 9; what++) due("30 count(" + what + ")", force.count(what), want[what]);
        for (int what : Checks.outside(0, 9)) due("30 count(" + what + ")", force.count(what), LieForce.BAD);
        force.pass(1);
        due("30 who have served longer", force.count(3), 2);
        due("30 both still there", force.count(2), 2);
    }

    private static void countAtTheBounds() {
        LieForce least = Checks.laid("s0,6,0,0;");
        int[] none = {1, 0, 0, 0, 0, 0, 0, 0, 0, 9};
        for (int what = 0; what <= 9; what++) due("30 least: count(" + what + ")", least.count(what), none[what]);
        LieForce most = Checks.laid("s0,0,0,0;".repeat(9) + "r1;");
        for (int f = 1; f < 6; f++) most.turn(f);
        for (int i = 0; i < 6; i++) most.see(i, true);
        for (int i = 0; i < 2; i++) most.keep();
        for (int i = 0; i < 10; i++) most.pass(30);
        while (most.write(' ') > 0) { }
        int[] all = {9, 0, 9, 9, 300, 5, 6, 8, 2, 200};
        for (int what = 0; what <= 9; what++) due("30 most: count(" + what + ")", most.count(what), all[what]);
        most.turn(0);
        due("30 six facts", most.count(5), 6);
        due("30 no policemen", most.count(2) + most.count(3), 0);
        for (int s = 0; s < 9; s++) most.withdraw(s);
        due("30 nine withdrawn", most.count(1), 9);
        due("30 nine sayings all the same", most.count(0), 9);
    }

    private static void constants() {
        due("BAD", LieForce.BAD, -1);
        due("NO", LieForce.NO, -2);
        due("FULL", LieForce.FULL, -3);
        due("NONE", LieForce.NONE, -4);
    }
}
