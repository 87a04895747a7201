import java.util.ArrayList;
import java.util.List;

/**
 * Refused calls in every sort of state: each answers the first refusal that fits, and changes nothing. Nor
 * does a question change anything. Two forces are made alike and one of them is called; whatever is asked of both then has the same answer.
 */
public final class RefusalTest {
    private interface Made {
        LieForce force();
    }

    private interface Call {
        long on(LieForce force);
    }

    private record Row(String name, Call call, long due) { }

    private static final Checks checks = new Checks();
    private static final int WAYS = 4;

    public static void main(String[] args) {
        refused("at first", LieForce::new, atFirst());
        refused("with all that there can be", RefusalTest::full, whenFull());
        refused("with those who served", RefusalTest::served, whenServed());
        refused("with a text at fault", RefusalTest::atFault, whenAtFault());
        refused("come back", RefusalTest::comeBack, whenComeBack());
        checks.end();
    }

    /** 200 letters that can not be laid, nine SAYINGS, six SEEN, eight to be UNDONE, two KEPT. */
    private static LieForce full() {
        LieForce force = new LieForce();
        force.say(0, 6, 99, 5);
        force.keep();
        for (int i = 0; i < 6; i++) force.see(i, i % 2 == 0);
        for (int i = 0; i < 4; i++) force.pass(1);
        force.turn(4);
        force.keep();
        for (int i = 0; i < 4; i++) force.turn(i);
        Checks.write(force, "s0,0,0,0;".repeat(9) + "f0;".repeat(39) + "f0");
        return force;
    }

    /** None CLASHES, a POLICEMAN has served, a SAYING is WITHDRAWN, and what is SEEN can not be. */
    private static LieForce served() {
        LieForce force = Checks.laid("f1;s0,0,0,0;s0,1,0,1;s2,0,2,2;r2;");
        force.withdraw(1);
        force.pass(2);
        force.see(0, true);
        force.see(0, false);
        force.keep();
        return force;
    }

    private static LieForce atFault() {
        LieForce force = Checks.laid("f5;s1,5,4,3;s4,4,10,0;r1;");
        force.turn(5);
        force.see(1, false);
        force.keep();
        force.pass(1);
        Checks.write(force, "s0,0,0,6;");
        return force;
    }

    private static LieForce comeBack() {
        LieForce force = Checks.laid("s0,0,0,0;");
        force.keep();
        force.say(0, 1, 0, 1);
        force.see(1, true);
        force.back();
        force.wipe();
        Checks.write(force, "f0;f1;r20;");
        return force;
    }

    private static List<Row> atFirst() {
        return List.of(
            new Row("lay()", LieForce::lay, LieForce.NO),
            new Row("undo()", LieForce::undo, LieForce.NO),
            new Row("back()", LieForce::back, LieForce.NO),
            new Row("fault()", LieForce::fault, LieForce.NONE),
            new Row("fall(0)", force -> force.fall(0), LieForce.NONE),
            new Row("fall(1)", force -> force.fall(1), LieForce.NONE),
            new Row("saying(0, 2)", force -> force.saying(0, 2), LieForce.NONE),
            new Row("saying(2, 6)", force -> force.saying(2, 6), LieForce.NONE),
            new Row("trial(2, 1)", force -> force.trial(2, 1), LieForce.NONE));
    }

    private static List<Row> whenFull() {
        return List.of(
            new Row("write('f')", force -> force.write('f'), LieForce.FULL),
            new Row("say(1, 0, 0, 0)", force -> force.say(1, 0, 0, 0), LieForce.FULL),
            new Row("say(0, 0, -9, 0)", force -> force.say(0, 0, -9, 0), LieForce.FULL),
            new Row("see(0, true)", force -> force.see(0, true), LieForce.FULL),
            new Row("see(8, false)", force -> force.see(8, false), LieForce.FULL),
            new Row("keep()", LieForce::keep, LieForce.FULL),
            new Row("lay()", LieForce::lay, LieForce.NO),
            new Row("saying(8, 2)", force -> force.saying(8, 2), LieForce.NONE));
    }

    private static List<Row> whenServed() {
        return List.of(
            new Row("withdraw(0), who has served", force -> force.withdraw(0), LieForce.NO),
            new Row("withdraw(1), which is already", force -> force.withdraw(1), LieForce.NO),
            new Row("worlds(1)", force -> force.worlds(1), LieForce.NONE),
            new Row("must(0)", force -> force.must(0), LieForce.NONE),
            new Row("must(5)", force -> force.must(5), LieForce.NONE),
            new Row("liars(0)", force -> force.liars(0), LieForce.NONE),
            new Row("liars(1)", force -> force.liars(1), LieForce.NONE),
            new Row("core()", LieForce::core, LieForce.NONE),
            new Row("saying(1, 6)", force -> force.saying(1, 6), LieForce.NONE),
            new Row("fall(0)", force -> force.fall(0), LieForce.NONE));
    }

    private static List<Row> whenAtFault() {
        return List.of(
            new Row("lay()", LieForce::lay, LieForce.NO),
            new Row("clash(0, 0)", force -> force.clash(0, 0), LieForce.BAD),
            new Row("withdraw(0), who has served", force -> force.withdraw(0), LieForce.NO));
    }

    private static List<Row> whenComeBack() {
        return List.of(
            new Row("lay()", LieForce::lay, LieForce.NO),
            new Row("undo()", LieForce::undo, LieForce.NO),
            new Row("back()", LieForce::back, LieForce.NO),
            new Row("core()", LieForce::core, LieForce.NONE),
            new Row("must(0)", force -> force.must(0), LieForce.NONE));
    }

    /** Every number of every call, just outside on both sides and far off, the others as they may be. */
    private static List<Row> bad(int sayings) {
        List<Row> rows = new ArrayList<>();
        outside(rows, "write", 32, 126, LieForce::write);
        outside(rows, "saying s", 0, sayings - 1, (force, s) -> force.saying(s, 6));
        outside(rows, "saying s, B", 0, sayings - 1, (force, s) -> force.saying(s, 2));
        outside(rows, "saying what", 0, 6, (force, what) -> force.saying(0, what));
        outside(rows, "fact", 0, 5, LieForce::fact);
        outside(rows, "clash s", 0, sayings - 1, (force, s) -> force.clash(s, 0));
        outside(rows, "clash t", 0, sayings - 1, (force, t) -> force.clash(0, t));
        outside(rows, "clash, alike", 0, sayings - 1, (force, s) -> force.clash(s, s));
        outside(rows, "pass", 1, 30, LieForce::pass);
        outside(rows, "say kind", 0, 4, (force, kind) -> force.say(kind, 0, 0, 0));
        outside(rows, "say a", 0, 11, (force, a) -> force.say(0, a, 0, 0));
        outside(rows, "say person", 0, 5, (force, person) -> force.say(0, 0, 0, person));
        for (int kind = 1; kind <= 4; kind++) {
            int one = kind;
            outside(rows, "say a of kind " + kind, 0, 11, (force, a) -> force.say(one, a, 0, 0));
            outside(rows, "say b of kind " + kind, 0, 11, (force, b) -> force.say(one, 0, b, 0));
        }
        outside(rows, "withdraw", 0, sayings - 1, LieForce::withdraw);
        outside(rows, "turn", 0, 5, LieForce::turn);
        outside(rows, "behind", 0, 60, LieForce::behind);
        outside(rows, "fall", 0, 1, LieForce::fall);
        outside(rows, "truest", 0, 1, LieForce::truest);
        outside(rows, "trial n", 1, 4, (force, n) -> force.trial(n, 1));
        outside(rows, "trial what", 0, 1, (force, what) -> force.trial(2, what));
        outside(rows, "see", 0, sayings - 1, (force, s) -> force.see(s, true));
        outside(rows, "worlds", 0, 1, LieForce::worlds);
        outside(rows, "must", 0, 5, LieForce::must);
        outside(rows, "liars", 0, 1, LieForce::liars);
        outside(rows, "chance k", 0, 9, (force, k) -> force.chance(k, 5, 0));
        outside(rows, "chance x", 0, 10, (force, x) -> force.chance(1, x, 1));
        outside(rows, "chance part", 0, 1, (force, part) -> force.chance(1, 5, part));
        outside(rows, "year z", 0, 9999, (force, z) -> force.year(z, 1, 0));
        outside(rows, "year n", 1, 60, (force, n) -> force.year(0, n, 1));
        outside(rows, "year what", 0, 1, (force, what) -> force.year(0, 1, what));
        outside(rows, "count", 0, 9, LieForce::count);
        return rows;
    }

    private interface Numbered {
        long on(LieForce force, int number);
    }

    private static void outside(List<Row> rows, String name, int lowest, int highest, Numbered call) {
        for (int number : Checks.outside(lowest, highest)) {
            rows.add(new Row(name + " " + number, force -> call.on(force, number), LieForce.BAD));
        }
    }

    private static void refused(String state, Made made, List<Row> others) {
        List<Row> rows = new ArrayList<>(others);
        rows.addAll(bad(made.force().count(0)));
        for (Row row : rows) {
            String name = state + ": " + row.name;
            checks.due(name, row.call.on(made.force()), row.due);
            changesNothing(name, made, row.call);
        }
        changesNothing(state + ": what is now", made, RefusalTest::askOfNow);
        changesNothing(state + ": what comes", made, RefusalTest::askOfWhatComes);
        changesNothing(state + ": what was seen", made, RefusalTest::askOfWhatWasSeen);
    }

    private static void changesNothing(String name, Made made, Call call) {
        for (int way = 0; way < WAYS; way++) {
            LieForce called = made.force();
            call.on(called);
            boolean same = goneOn(called, way).equals(goneOn(made.force(), way));
            checks.due(name + " changes nothing, by way " + way, same ? 1 : 0, 1);
        }
    }

    private static long askOfNow(LieForce force) {
        return force.fault() + force.saying(0, 6) + force.fact(0) + force.clash(0, 1) + force.count(3);
    }

    private static long askOfWhatComes(LieForce force) {
        return force.behind(60) + force.fall(0) + force.fall(1) + force.core() + force.cut() + force.truest(0)
            + force.truest(1) + force.married() + force.trial(4, 0) + force.trial(3, 1) + force.year(5, 60, 0)
            + force.year(77, 60, 1) + force.chance(2, 5, 1);
    }

    private static long askOfWhatWasSeen(LieForce force) {
        return force.worlds(0) + force.worlds(1) + force.must(3) + force.liars(0) + force.liars(1);
    }

    /** What there is to be seen of a force that goes on in one of four ways, and so of all that it holds. */
    private static String goneOn(LieForce force, int way) {
        StringBuilder all = new StringBuilder();
        switch (way) {
            case 0 -> all.append(Checks.stand(force));
            case 1 -> {
                for (int i = 0; i < 9; i++) all.append(force.undo()).append(brief(force));
            }
            case 2 -> {
                for (int i = 0; i < 3; i++) all.append(force.back()).append(brief(force));
            }
            default -> {
                all.append(force.fault()).append(' ').append(force.lay()).append(brief(force));
                all.append(force.write(';')).append(' ').append(force.fault()).append(force.wipe());
                for (int day = 0; day < 6; day++) all.append(force.pass(1)).append(brief(force));
            }
        }
        return all.toString();
    }

    private static String brief(LieForce force) {
        StringBuilder all = new StringBuilder(" /");
        for (int what = 1; what <= 5; what++) all.append(' ').append(force.count(what));
        for (int f = 0; f < 6; f++) all.append(force.fact(f));
        for (int s = 0; s < 9; s++) all.append(' ').append(force.saying(s, 6));
        return all.append(' ').append(force.worlds(1)).append(' ').toString();
    }
}
