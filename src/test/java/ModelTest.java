import java.util.Random;

/** Long runs of calls, the same ones each time, put to LieForce and to the model alike. */
public final class ModelTest {
    private static final int RUNS = 2000, CALLS = 512;
    private static final Checks checks = new Checks();

    private final Random random;
    private final int run;
    private int calls;
    private final LieForce force = new LieForce();
    private final Model model = new Model();

    private ModelTest(int run) {
        this.run = run;
        this.random = new Random(7919L * run + 1);
    }

    public static void main(String[] args) {
        for (int run = 0; run < RUNS; run++) new ModelTest(run).play();
        checks.end();
    }

    private void play() {
        // Some runs keep to the force of the beginning.
        if (run % 6 != 0) writeText();
        // No step but a TEXT makes more than a dozen calls, and behind the last of them nothing is promised.
        while (calls < CALLS - 12) {
            int pick = random.nextInt(100);
            if (pick < 2 && calls < CALLS - 350) writeText();
            else if (pick < 36) act();
            else if (pick < 50) looks();
            else ask();
        }
    }

    private void due(String call, int got, int want) {
        calls++;
        if (calls > CALLS) throw new IllegalStateException("more calls than are promised");
        checks.due("run " + run + ": " + call, got, want);
    }

    private void writeText() {
        due("wipe", force.wipe(), model.wipe());
        String text = randomText();
        for (int i = 0; i < text.length(); i++) due("write", force.write(text.charAt(i)), model.write(text.charAt(i)));
        due("fault " + text, force.fault(), model.fault());
        due("lay " + text, force.lay(), model.lay());
    }

    private String randomText() {
        StringBuilder text = new StringBuilder();
        int items = 1 + random.nextInt(18);
        for (int i = 0; i < items && text.length() < 170; i++) text.append(randomItem());
        if (random.nextInt(5) == 0) spoil(text);
        return text.toString();
    }

    private String randomItem() {
        int pick = random.nextInt(20);
        if (pick < 4) return "f" + figures(5) + ";";
        if (pick < 6) return "r" + (1 + random.nextInt(random.nextBoolean() ? 3 : 20)) + ";";
        // Few facts make many of them clash.
        int facts = 1 + random.nextInt(6);
        return "s" + figures(4) + "," + literal(facts) + "," + literal(facts) + "," + figures(random.nextInt(6)) + ";";
    }

    private String figures(int highest) {
        return (random.nextInt(20) == 0 ? "0" : "") + random.nextInt(highest + 1);
    }

    private int literal(int facts) {
        return random.nextInt(facts) + (random.nextBoolean() ? 6 : 0);
    }

    private void spoil(StringBuilder text) {
        String signs = "fsr0123456789,; ~F";
        int at = random.nextInt(text.length());
        char sign = signs.charAt(random.nextInt(signs.length()));
        switch (random.nextInt(3)) {
            case 0 -> text.setCharAt(at, sign);
            case 1 -> text.insert(at, sign);
            default -> text.deleteCharAt(at);
        }
    }

    /** Mostly a number within bounds, now and then one near them or far off. */
    private int some(int lowest, int highest) {
        int pick = random.nextInt(60);
        if (pick == 0) return lowest - 1;
        if (pick == 1) return highest + 1;
        if (pick == 2) return random.nextInt();
        return lowest + random.nextInt(highest - lowest + 1);
    }

    private void act() {
        switch (random.nextInt(9)) {
            case 0, 1 -> {
                int n = random.nextBoolean() ? 1 : some(1, random.nextBoolean() ? 4 : 30);
                due("pass " + n, force.pass(n), model.pass(n));
            }
            case 2 -> {
                int kind = some(0, 4), a = some(0, 11), b = some(0, 11), person = some(0, 5);
                due("say " + kind + " " + a + " " + b + " " + person, force.say(kind, a, b, person), model.say(kind, a, b, person));
            }
            case 3 -> {
                int s = some(0, 8);
                due("withdraw " + s, force.withdraw(s), model.withdraw(s));
            }
            case 4, 5 -> {
                int f = some(0, 5);
                due("turn " + f, force.turn(f), model.turn(f));
            }
            case 6 -> due("undo", force.undo(), model.undo());
            case 7 -> due("keep", force.keep(), model.keep());
            default -> {
                if (random.nextBoolean()) due("back", force.back(), model.back());
                for (int n = random.nextInt(6); n > 0; n--) due("undo", force.undo(), model.undo());
            }
        }
    }

    private void looks() {
        if (random.nextInt(9) == 0) due("forget", force.forget(), model.forget());
        int s = some(0, 8);
        boolean has = random.nextBoolean();
        if (random.nextInt(3) != 0) has = model.saying(s, 6) >= 0;
        due("see " + s + " " + has, force.see(s, has), model.see(s, has));
        for (int what = 0; what < 2; what++) due("worlds " + what, force.worlds(what), model.worlds(what));
        int w = some(0, 1), f = some(0, 5);
        due("worlds " + w, force.worlds(w), model.worlds(w));
        due("must " + f, force.must(f), model.must(f));
        due("liars " + w, force.liars(w), model.liars(w));
    }

    private void ask() {
        int what = some(0, 1);
        switch (random.nextInt(16)) {
            case 0 -> due("core", force.core(), model.core());
            case 1 -> due("cut", force.cut(), model.cut());
            case 2 -> due("truest " + what, force.truest(what), model.truest(what));
            case 3 -> due("married", force.married(), model.married());
            case 4 -> {
                int n = some(1, 4);
                due("trial " + n + " " + what, force.trial(n, what), model.trial(n, what));
            }
            case 5 -> {
                int n = some(0, random.nextBoolean() ? 10 : 60);
                due("behind " + n, force.behind(n), model.behind(n));
            }
            case 6, 7 -> due("fall " + what, force.fall(what), model.fall(what));
            case 8 -> {
                int k = some(0, 9), x = some(0, 10);
                due("chance " + k + " " + x + " " + what, force.chance(k, x, what), model.chance(k, x, what));
            }
            case 9, 10 -> {
                int z = some(0, 9999), n = some(1, 60);
                due("year " + z + " " + n + " " + what, force.year(z, n, what), model.year(z, n, what));
            }
            case 11 -> {
                int s = some(0, 8), t = some(0, 8);
                due("clash " + s + " " + t, force.clash(s, t), model.clash(s, t));
            }
            case 12 -> {
                int f = some(0, 5);
                due("fact " + f, force.fact(f), model.fact(f));
            }
            case 13 -> {
                for (int which = -1; which <= 10; which++) due("count " + which, force.count(which), model.count(which));
            }
            case 14 -> {
                int s = some(0, 8);
                for (int which = -1; which <= 7; which++) due("saying " + s + " " + which, force.saying(s, which), model.saying(s, which));
            }
            default -> {
                int which = random.nextInt(7);
                for (int s = -1; s <= 9; s++) due("saying " + s + " " + which, force.saying(s, which), model.saying(s, which));
            }
        }
    }
}
