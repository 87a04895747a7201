/** Counts answers that are not due, and makes forces out of texts. */
final class Checks {
    private int wrong;

    void due(String call, long got, long want) {
        if (got == want) return;
        wrong++;
        System.out.println(call + " answered " + got + ", due is " + want);
    }

    /** Ends the test: exit code 1 if an answer was wrong. */
    void end() {
        System.out.println(wrong == 0 ? "all answers are as due" : wrong + " answers are not as due");
        if (wrong != 0) System.exit(1);
    }

    static void write(LieForce force, String text) {
        for (int i = 0; i < text.length(); i++) force.write(text.charAt(i));
    }

    static LieForce written(String text) {
        LieForce force = new LieForce();
        write(force, text);
        return force;
    }

    static LieForce laid(String text) {
        LieForce force = written(text);
        int sayings = force.lay();
        if (sayings < 1) throw new IllegalStateException(text + " is not laid: " + sayings);
        return force;
    }

    /** All that can be asked of how things stand, in one text. */
    static String stand(LieForce force) {
        StringBuilder all = new StringBuilder();
        for (int what = 0; what <= 9; what++) all.append(force.count(what)).append(' ');
        for (int f = 0; f < 6; f++) all.append(force.fact(f));
        int sayings = force.count(0);
        for (int s = 0; s < sayings; s++) {
            all.append(" |");
            for (int what = 0; what <= 6; what++) all.append(' ').append(force.saying(s, what));
        }
        return all.append(" worlds ").append(force.worlds(0)).append(' ').append(force.worlds(1)).toString();
    }

    /** The numbers just outside of lowest to highest, and the farthest ones. */
    static int[] outside(int lowest, int highest) {
        return new int[] {lowest - 1, highest + 1, Integer.MIN_VALUE, Integer.MAX_VALUE};
    }
}
