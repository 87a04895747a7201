/** Promises 21 to 25: what was SEEN, and the WORLDS in which it would be so. */
public final class SeenTest {
    private static final Checks checks = new Checks();

    public static void main(String[] args) {
        see();
        seeTheLastOne();
        forget();
        worlds();
        theLastWorld();
        whatHasNone();
        seenStays();
        must();
        mustOfEveryFact();
        liars();
        liarsInEachWorldByItself();
        nothingChanges();
        checks.end();
    }

    private static void due(String call, long got, long want) {
        checks.due(call, got, want);
    }

    private static void see() {
        LieForce force = Checks.laid("s0,0,0,0;s0,1,0,1;");
        for (int s : Checks.outside(0, 1)) due("21 see(" + s + ")", force.see(s, true), LieForce.BAD);
        for (int i = 1; i <= 6; i++) due("21 see " + i, force.see(i % 2, i % 2 == 0), i);
        due("21 full", force.see(0, false), LieForce.FULL);
        due("21 bad comes ahead of full", force.see(2, false), LieForce.BAD);
        due("21 six", force.count(6), 6);
        due("21 all six count", force.worlds(1), 2);
    }

    private static void seeTheLastOne() {
        LieForce force = Checks.laid("s0,0,0,0;".repeat(8));
        due("21 no ninth yet", force.see(8, true), LieForce.BAD);
        force.say(0, 6, 0, 0);
        due("21 the ninth", force.see(8, true), 1);
        due("21 no tenth", force.see(9, true), LieForce.BAD);
        due("21 it counts", force.worlds(1), 1);
        force.withdraw(7);
        due("21 a withdrawn one", force.see(7, false), 2);
        due("21 it has none anyway", force.worlds(0), 32);
    }

    private static void forget() {
        LieForce force = Checks.laid("s0,0,0,0;s0,1,0,1;");
        due("22 none", force.forget(), 0);
        force.see(0, false);
        force.see(1, true);
        due("22 two", force.forget(), 2);
        due("22 nothing is seen", force.count(6), 0);
        due("22 every world", force.worlds(0), 64);
        due("22 seen anew", force.see(1, false), 1);
        due("22 the new one alone", force.worlds(1), 2);
        for (int i = 2; i <= 6; i++) force.see(0, true);
        due("22 full", force.see(0, true), LieForce.FULL);
        due("22 six", force.forget(), 6);
        due("22 none again", force.forget(), 0);
    }

    private static void worlds() {
        LieForce force = Checks.laid("s0,0,0,0;s1,1,8,1;s4,3,4,2;s0,0,0,3;");
        due("23 all", force.worlds(0), 64);
        due("23 the lowest of all", force.worlds(1), 0);
        for (int what : Checks.outside(0, 1)) due("23 worlds(" + what + ")", force.worlds(what), LieForce.BAD);
        force.see(0, false);
        due("23 half", force.worlds(0), 32);
        due("23 the lowest of half", force.worlds(1), 1);
        force.see(1, false);
        due("23 an eighth", force.worlds(0), 8);
        due("23 the lowest of an eighth", force.worlds(1), 3);
        force.see(2, true);
        due("23 four", force.worlds(0), 4);
        force.see(2, false);
        due("23 both can not be", force.worlds(0), 0);
        due("23 no lowest", force.worlds(1), LieForce.NONE);
        due("23 bad comes ahead of none", force.worlds(2), LieForce.BAD);
        force.forget();
        force.turn(0);
        force.see(0, true);
        due("23 whatever the facts are now", force.worlds(0), 32);
    }

    /** Six that are SEEN leave one world, each of the 64 in its turn. */
    private static void theLastWorld() {
        for (int world = 0; world < 64; world++) {
            LieForce force = Checks.laid("s0,0,0,0;s0,1,0,0;s0,2,0,0;s0,3,0,0;s0,4,0,0;s0,5,0,0;");
            for (int f = 0; f < 6; f++) force.see(f, (world >> f & 1) == 0);
            due("23 one world", force.worlds(0), 1);
            due("23 the lowest of one", force.worlds(1), world);
            due("25 liars in world " + world, force.liars(0), world == 63 ? 0 : 1);
            due("25 world " + world, force.liars(1), world);
            for (int f = 0; f < 6; f++) due("24 must(" + f + ") in " + world, force.must(f), world >> f & 1);
        }
    }

    private static void whatHasNone() {
        LieForce force = Checks.laid("s0,0,0,0;s1,1,7,1;");
        force.see(0, true);
        due("23 not yet withdrawn", force.worlds(0), 32);
        force.withdraw(0);
        due("23 withdrawn, seen with one", force.worlds(0), 0);
        force.forget();
        force.see(0, false);
        due("23 withdrawn, seen with none", force.worlds(0), 64);
        force.undo();
        due("23 withdrawn no more", force.worlds(0), 32);
        force.forget();
        force.say(0, 6, 0, 2);
        force.see(2, true);
        due("23 said", force.worlds(1), 1);
        force.undo();
        due("23 undone, seen with one", force.worlds(0), 0);
        force.forget();
        force.say(0, 6, 0, 2);
        force.see(2, false);
        due("23 said again", force.worlds(0), 32);
        force.undo();
        due("23 undone, seen with none", force.worlds(0), 64);
        due("23 it is seen still", force.count(6), 1);
    }

    /** What is SEEN stays by DAYS, by FACTS that TURN and by all that is UNDONE; it is of a SAYING's number. */
    private static void seenStays() {
        LieForce force = Checks.laid("s0,0,0,0;s1,1,7,0;r3;");
        force.see(0, true);
        force.pass(2);
        force.turn(0);
        due("23 what is seen stays", force.worlds(0) * 100 + force.worlds(1), 3200);
        force.undo();
        force.undo();
        due("23 it stays, though all is undone", force.count(6), 1);
        force.say(0, 1, 0, 0);
        force.see(2, false);
        due("23 of the third", force.worlds(1), 2);
        force.undo();
        due("23 it is not there", force.worlds(1), 0);
        force.say(0, 5, 0, 0);
        due("23 another one by its number", force.worlds(1), 32);
        force.pass(2);
        due("23 days alone change nothing", force.worlds(1), 32);
        force.pass(1);
        due("23 those who have fallen are withdrawn", force.worlds(1), LieForce.NONE);
    }

    private static void must() {
        LieForce force = Checks.laid("s1,0,7,0;s0,2,0,0;");
        for (int f = 0; f < 6; f++) due("24 all worlds " + f, force.must(f), 2);
        for (int f : Checks.outside(0, 5)) due("24 must(" + f + ")", force.must(f), LieForce.BAD);
        force.see(0, false);
        int[] want = {1, 0, 2, 2, 2, 2};
        for (int f = 0; f < 6; f++) due("24 must(" + f + ")", force.must(f), want[f]);
        force.see(0, true);
        due("24 no worlds", force.must(0), LieForce.NONE);
        due("24 bad comes ahead of none", force.must(6), LieForce.BAD);
    }

    private static void mustOfEveryFact() {
        LieForce force = Checks.laid("s1,0,1,0;s1,8,9,0;s4,4,5,0;");
        force.see(0, false);
        force.see(1, false);
        force.see(2, false);
        int[] want = {1, 1, 0, 0, 2, 2};
        for (int f = 0; f < 6; f++) due("24 of every fact: " + f, force.must(f), want[f]);
        LieForce last = Checks.laid("s0,5,0,0;");
        last.see(0, false);
        due("24 the last fact is so", last.must(5), 1);
        last.forget();
        last.see(0, true);
        due("24 the last fact is not so", last.must(5), 0);
        last.see(0, false);
        due("24 no worlds, the last fact", last.must(5), LieForce.NONE);
        due("24 no worlds, no fact", last.must(-1), LieForce.BAD);
    }

    /** FACTS make one PERSON or another a liar, but none makes more than one at a time. */
    private static void liarsInEachWorldByItself() {
        LieForce force = Checks.laid("s0,0,0,0;s0,6,0,5;s0,6,0,5;");
        due("25 one in each world", force.liars(0), 1);
        due("25 the lowest world", force.liars(1), 0);
        force.see(0, false);
        due("25 the other one", force.liars(0), 1);
        due("25 the lowest world of the other one", force.liars(1), 1);
        force.withdraw(1);
        due("25 one lie is withdrawn", force.liars(0), 1);
        force.forget();
        force.withdraw(2);
        due("25 both are withdrawn", force.liars(0), 0);
        due("25 the world by which all is so", force.liars(1), 1);
    }

    private static void liars() {
        LieForce force = Checks.laid("s0,0,0,0;s0,6,0,1;s0,1,0,1;s0,2,0,1;s1,3,9,2;");
        due("25 two at least", force.liars(0), 2);
        due("25 a person is one, for all lies", force.liars(1), 1);
        for (int what : Checks.outside(0, 1)) due("25 liars(" + what + ")", force.liars(what), LieForce.BAD);
        force.withdraw(4);
        due("25 one withdrawn", force.liars(0), 1);
        due("25 by the lowest world", force.liars(1), 1);
        force.see(0, true);
        due("25 seen", force.liars(0), 1);
        due("25 by the lowest so seen", force.liars(1), 6);
        force.see(1, true);
        due("25 none", force.liars(0), LieForce.NONE);
        due("25 no world", force.liars(1), LieForce.NONE);
        due("25 bad comes ahead of none", force.liars(2), LieForce.BAD);
        String six = "s1,0,6,0;s1,0,6,1;s1,0,6,2;s1,0,6,3;s1,0,6,4;";
        due("25 five liars", Checks.laid(six).liars(0), 5);
        due("25 five in all worlds", Checks.laid(six).liars(1), 0);
        due("25 six liars", Checks.laid(six + "s1,0,6,5;").liars(0), 6);
        due("25 six in all worlds", Checks.laid(six + "s1,0,6,5;").liars(1), 0);
        due("25 none in the world 0", Checks.laid("s0,6,0,0;").liars(1), 0);
        LieForce honest = Checks.laid("s0,5,0,0;");
        due("25 no liars", honest.liars(0), 0);
        due("25 the honest world", honest.liars(1), 32);
    }

    private static void nothingChanges() {
        LieForce force = new LieForce();
        String stood = Checks.stand(force);
        force.see(9, true);
        force.worlds(0);
        force.must(0);
        force.liars(0);
        due("21 to 25 change nothing", Checks.stand(force).equals(stood) ? 1 : 0, 1);
    }
}
