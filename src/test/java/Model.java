import java.util.ArrayDeque;
import java.util.ArrayList;
import java.util.Arrays;
import java.util.List;
import java.util.TreeSet;
import java.util.regex.Matcher;
import java.util.regex.Pattern;

/** The document told a second time, in another way: plain lists, copies and trials of everything. */
final class Model {
    static final int BAD = -1, NO = -2, FULL = -3, NONE = -4;
    private static final Pattern ITEM =
        Pattern.compile("f(\\d\\d?);|r(\\d\\d?);|s(\\d\\d?),(\\d\\d?),(\\d\\d?),(\\d\\d?);");

    private record Said(int kind, int a, int b, int person) {
        boolean so(boolean[] facts) {
            boolean x = literal(a, facts);
            boolean y = literal(b, facts);
            return switch (kind) {
                case 0 -> x;
                case 1 -> x && y;
                case 2 -> x || y;
                case 3 -> !(x && !y);
                default -> (x ? 1 : 0) + (y ? 1 : 0) == 1;
            };
        }

        private static boolean literal(int l, boolean[] facts) {
            return l < 6 ? facts[l] : !facts[l - 6];
        }
    }

    private record Look(int s, boolean has) { }

    private static final class State {
        boolean[] facts = new boolean[6];
        List<Said> said = new ArrayList<>();
        List<Boolean> withdrawn = new ArrayList<>();
        List<Integer> since = new ArrayList<>();
        int day;
        int term = 5;

        State copy() {
            State c = new State();
            c.facts = facts.clone();
            c.said = new ArrayList<>(said);
            c.withdrawn = new ArrayList<>(withdrawn);
            c.since = new ArrayList<>(since);
            c.day = day;
            c.term = term;
            return c;
        }

        boolean policeman(int s, boolean[] by) {
            return s < said.size() && !withdrawn.get(s) && !said.get(s).so(by);
        }

        List<Integer> policemen(boolean[] by) {
            List<Integer> all = new ArrayList<>();
            for (int s = 0; s < said.size(); s++) if (policeman(s, by)) all.add(s);
            return all;
        }

        int served(int s) {
            return day - since.get(s);
        }

        void say(Said one) {
            said.add(one);
            withdrawn.add(false);
            since.add(day);
        }

        void turn(int f) {
            List<Integer> were = policemen(facts);
            facts[f] = !facts[f];
            for (int s : policemen(facts)) if (!were.contains(s)) since.set(s, day);
        }

        boolean canWithdraw(int s) {
            return !withdrawn.get(s) && !(policeman(s, facts) && served(s) >= term);
        }

        List<int[]> pass() {
            day++;
            List<int[]> fallen = new ArrayList<>();
            for (int s = 0; s < said.size(); s++) {
                for (int t = s + 1; t < said.size(); t++) {
                    if (!policeman(s, facts) || !policeman(t, facts) || served(s) < term || served(t) < term) continue;
                    if (!cannotAll(List.of(said.get(s), said.get(t)))) continue;
                    withdrawn.set(s, true);
                    withdrawn.set(t, true);
                    fallen.add(new int[] {s, t});
                }
            }
            return fallen;
        }

        /** That they could not all be so, whatever facts there were. */
        static boolean cannotAll(List<Said> some) {
            for (int w = 0; w < 64; w++) {
                boolean[] by = world(w);
                if (some.stream().allMatch(one -> one.so(by))) return false;
            }
            return true;
        }
    }

    private final StringBuilder text = new StringBuilder();
    private State now;
    private final ArrayDeque<State> before = new ArrayDeque<>();
    private final List<State> kept = new ArrayList<>();
    private final List<Look> seen = new ArrayList<>();

    Model() {
        text.append("f0;f2;f5;s0,1,0,0;s1,0,3,1;s2,7,4,2;s3,0,1,0;s4,2,5,3;s1,4,1,1;s0,10,0,4;s3,2,8,2;r3;");
        lay();
        text.setLength(0);
    }

    private static boolean[] world(int w) {
        boolean[] by = new boolean[6];
        for (int f = 0; f < 6; f++) by[f] = (w >> f) % 2 == 1;
        return by;
    }

    private static int number(boolean[] by) {
        int w = 0;
        for (int f = 0; f < 6; f++) if (by[f]) w += 1 << f;
        return w;
    }

    private static int bits(List<Integer> some) {
        int b = 0;
        for (int s : some) b += 1 << s;
        return b;
    }

    private static boolean in(int n, int from, int to) {
        return from <= n && n <= to;
    }

    private void remember() {
        before.addLast(now.copy());
        if (before.size() > 8) before.removeFirst();
    }

    private boolean there(int s) {
        return in(s, 0, now.said.size() - 1);
    }

    int write(int letter) {
        if (!in(letter, 32, 126)) return BAD;
        if (text.length() == 200) return FULL;
        return text.append((char) letter).length();
    }

    int wipe() {
        int was = text.length();
        text.setLength(0);
        return was;
    }

    private int read(State into) {
        Matcher item = ITEM.matcher(text);
        int at = 0;
        while (at < text.length()) {
            item.region(at, text.length());
            if (!item.lookingAt() || !take(item, into)) return at;
            at = item.end();
        }
        return NONE;
    }

    private static boolean take(Matcher item, State into) {
        if (item.group(1) != null) {
            int f = Integer.parseInt(item.group(1));
            if (f > 5) return false;
            into.facts[f] = !into.facts[f];
        } else if (item.group(2) != null) {
            into.term = Integer.parseInt(item.group(2));
            return in(into.term, 1, 20);
        } else {
            int[] n = new int[4];
            for (int i = 0; i < 4; i++) n[i] = Integer.parseInt(item.group(3 + i));
            if (n[0] > 4 || n[1] > 11 || n[2] > 11 || n[3] > 5 || into.said.size() == 9) return false;
            into.say(new Said(n[0], n[1], n[2], n[3]));
        }
        return true;
    }

    int fault() {
        return read(new State());
    }

    int lay() {
        State laid = new State();
        if (read(laid) != NONE || laid.said.isEmpty()) return NO;
        now = laid;
        before.clear();
        kept.clear();
        seen.clear();
        return now.said.size();
    }

    int saying(int s, int what) {
        if (!there(s) || !in(what, 0, 6)) return BAD;
        Said one = now.said.get(s);
        int served = now.policeman(s, now.facts) ? now.served(s) : NONE;
        int[] all = {
            one.kind(), one.a(), one.kind() == 0 ? NONE : one.b(), one.person(), one.so(now.facts) ? 1 : 0,
            now.withdrawn.get(s) ? 1 : 0, served
        };
        return all[what];
    }

    int fact(int f) {
        return !in(f, 0, 5) ? BAD : now.facts[f] ? 1 : 0;
    }

    int clash(int s, int t) {
        if (!there(s) || !there(t) || s == t) return BAD;
        return State.cannotAll(List.of(now.said.get(s), now.said.get(t))) ? 1 : 0;
    }

    int pass(int n) {
        if (!in(n, 1, 30)) return BAD;
        remember();
        for (int i = 0; i < n; i++) now.pass();
        return now.day;
    }

    int say(int kind, int a, int b, int person) {
        if (!in(kind, 0, 4) || !in(a, 0, 11) || kind != 0 && !in(b, 0, 11) || !in(person, 0, 5)) return BAD;
        if (now.said.size() == 9) return FULL;
        remember();
        now.say(new Said(kind, a, kind == 0 ? a : b, person));
        return now.said.size() - 1;
    }

    int withdraw(int s) {
        if (!there(s)) return BAD;
        if (!now.canWithdraw(s)) return NO;
        remember();
        now.withdrawn.set(s, true);
        return now.policemen(now.facts).size();
    }

    int turn(int f) {
        if (!in(f, 0, 5)) return BAD;
        remember();
        now.turn(f);
        return now.policemen(now.facts).size();
    }

    int undo() {
        if (before.isEmpty()) return NO;
        now = before.removeLast();
        return before.size();
    }

    int behind(int n) {
        if (!in(n, 0, 60)) return BAD;
        State then = now.copy();
        for (int i = 0; i < n; i++) then.pass();
        return bits(then.policemen(then.facts));
    }

    int fall(int what) {
        if (!in(what, 0, 1)) return BAD;
        State then = now.copy();
        for (int day = 1; day <= 60; day++) {
            List<int[]> fallen = then.pass();
            if (!fallen.isEmpty()) return what == 1 ? day : fallen.get(0)[0] * 10 + fallen.get(0)[1];
        }
        return NONE;
    }

    private List<Integer> standing() {
        List<Integer> all = new ArrayList<>();
        for (int s = 0; s < now.said.size(); s++) if (!now.withdrawn.get(s)) all.add(s);
        return all;
    }

    private List<Said> chosen(int set) {
        List<Said> some = new ArrayList<>();
        for (int s : standing()) if ((set >> s & 1) == 1) some.add(now.said.get(s));
        return some;
    }

    int core() {
        for (int size = 1; size <= 9; size++) {
            for (int set = 0; set < 512; set++) {
                if (Integer.bitCount(set) == size && (set & bits(standing())) == set && State.cannotAll(chosen(set))) return set;
            }
        }
        return NONE;
    }

    int cut() {
        for (int size = 0; size <= 9; size++) {
            for (int set = 0; set < 512; set++) {
                if (Integer.bitCount(set) == size && (set & bits(standing())) == set && !State.cannotAll(chosen(~set))) return set;
            }
        }
        throw new IllegalStateException();
    }

    private int so(int w) {
        boolean[] by = world(w);
        return (int) standing().stream().filter(s -> now.said.get(s).so(by)).count();
    }

    int truest(int what) {
        if (!in(what, 0, 1)) return BAD;
        int best = 0;
        for (int w = 63; w >= 0; w--) if (so(w) >= so(best)) best = w;
        return what == 0 ? so(best) : best;
    }

    int married() {
        return pairs(now.policemen(now.facts));
    }

    private int pairs(List<Integer> free) {
        if (free.size() < 2) return 0;
        List<Integer> rest = free.subList(1, free.size());
        int best = pairs(rest);
        for (int t : rest) {
            int s = free.get(0);
            if (now.said.get(s).person() == now.said.get(t).person() || clash(s, t) == 1) continue;
            List<Integer> without = new ArrayList<>(rest);
            without.remove(Integer.valueOf(t));
            best = Math.max(best, 1 + pairs(without));
        }
        return best;
    }

    private int outcome(int w, int left, boolean first, int[] lies) {
        if (left == 0) return lies[w];
        int[] all = new int[7];
        for (int f = 0; f < 6; f++) all[f] = outcome(w ^ 1 << f, left - 1, !first, lies);
        all[6] = outcome(w, left - 1, !first, lies);
        Arrays.sort(all);
        return first ? all[6] : all[0];
    }

    int trial(int n, int what) {
        if (!in(n, 1, 4) || !in(what, 0, 1)) return BAD;
        int[] lies = new int[64];
        for (int w = 0; w < 64; w++) lies[w] = now.policemen(world(w)).size();
        int w = number(now.facts);
        int best = outcome(w, n, true, lies);
        if (what == 0) return best;
        if (outcome(w, n - 1, false, lies) == best) return NONE;
        for (int f = 0; f < 6; f++) if (outcome(w ^ 1 << f, n - 1, false, lies) == best) return f;
        throw new IllegalStateException();
    }

    int see(int s, boolean has) {
        if (!there(s)) return BAD;
        if (seen.size() == 6) return FULL;
        seen.add(new Look(s, has));
        return seen.size();
    }

    int forget() {
        int were = seen.size();
        seen.clear();
        return were;
    }

    private List<Integer> worlds() {
        List<Integer> all = new ArrayList<>();
        for (int w = 0; w < 64; w++) {
            boolean[] by = world(w);
            if (seen.stream().allMatch(look -> now.policeman(look.s(), by) == look.has())) all.add(w);
        }
        return all;
    }

    int worlds(int what) {
        if (!in(what, 0, 1)) return BAD;
        if (what == 0) return worlds().size();
        return worlds().isEmpty() ? NONE : worlds().get(0);
    }

    int must(int f) {
        if (!in(f, 0, 5)) return BAD;
        if (worlds().isEmpty()) return NONE;
        if (worlds().stream().allMatch(w -> world(w)[f])) return 1;
        return worlds().stream().noneMatch(w -> world(w)[f]) ? 0 : 2;
    }

    private int liarsIn(int w) {
        TreeSet<Integer> liars = new TreeSet<>();
        for (int s : now.policemen(world(w))) liars.add(now.said.get(s).person());
        return liars.size();
    }

    int liars(int what) {
        if (!in(what, 0, 1)) return BAD;
        List<Integer> all = worlds();
        if (all.isEmpty()) return NONE;
        int best = all.get(0);
        for (int w : all) if (liarsIn(w) < liarsIn(best)) best = w;
        return what == 0 ? liarsIn(best) : best;
    }

    int chance(int k, int x, int part) {
        if (!in(k, 0, 9) || !in(x, 0, 10) || !in(part, 0, 1)) return BAD;
        int above = 0;
        for (int w = 0; w < 64; w++) {
            int ways = 1;
            for (int f = 0; f < 6; f++) ways *= world(w)[f] == now.facts[f] ? 10 - x : x;
            if (now.policemen(world(w)).size() >= k) above += ways;
        }
        int below = 1000000;
        for (int d = 2; d <= 5; d += 3) {
            while (above % d == 0 && below % d == 0) {
                above /= d;
                below /= d;
            }
        }
        return part == 0 ? above : below;
    }

    int year(int z, int n, int what) {
        if (!in(z, 0, 9999) || !in(n, 1, 60) || !in(what, 0, 1)) return BAD;
        State then = now.copy();
        int fallen = 0;
        for (int k = 0; k < n; k++) {
            long x = 7919L * z + 6151L * k + 1;
            long draw = x * x % 65521;
            if ((draw >> 3) % 3 == 0) then.turn((int) (draw % 6));
            int s = (int) ((draw >> 6) % then.said.size());
            if ((draw >> 10) % 5 == 0 && then.canWithdraw(s)) then.withdrawn.set(s, true);
            fallen += 2 * then.pass().size();
        }
        return what == 0 ? then.policemen(then.facts).size() : fallen;
    }

    int keep() {
        if (kept.size() == 2) return FULL;
        kept.add(now.copy());
        return kept.size();
    }

    int back() {
        if (kept.isEmpty()) return NO;
        now = kept.remove(kept.size() - 1);
        before.clear();
        return kept.size();
    }

    int count(int what) {
        List<Integer> police = now.policemen(now.facts);
        int[] all = {
            now.said.size(), now.said.size() - standing().size(), police.size(),
            (int) police.stream().filter(s -> now.served(s) >= now.term).count(), now.day,
            Integer.bitCount(number(now.facts)), seen.size(), before.size(), kept.size(), text.length()
        };
        return in(what, 0, 9) ? all[what] : BAD;
    }
}
