import java.util.ArrayList;
import java.util.Arrays;
import java.util.List;
import java.util.TreeMap;
import java.util.regex.Matcher;
import java.util.regex.Pattern;

/**
 * Long runs of calls against a second dovecote that is written from the document in another way: doves as objects,
 * holes only as what the doves tell, texts by a regular expression. The runs are the same each time.
 */
public final class ModelTest {
    private static final int RUNS = 800;
    private static final int CALLS = 512;
    private static int callsLeft;
    private static long seed = 1;

    private static int below(int bound) {
        seed = seed * 6364136223846793005L + 1442695040888963407L;
        return (int) ((seed >>> 33) % bound);
    }

    private static final class Bird implements Cloneable {
        int number;
        int own;
        int strength;
        int at = -1;
        int mate = -1;
        int late;
        int shifted;
        int absent;
        int slept;

        Bird copy() {
            try {
                return (Bird) clone();
            } catch (CloneNotSupportedException e) {
                throw new AssertionError(e);
            }
        }
    }

    private static final class Loft {
        TreeMap<Integer, Bird> birds = new TreeMap<>();
        boolean[] shut = new boolean[24];
        int[] settings = {1080, 6};
        int[] dawn = new int[4];
        int day;
        int time;
        int shifts;
        int quarrels;
        List<int[]> steps = new ArrayList<>();
        int[] stop = {-1, -1};

        Loft copy() {
            Loft loft = new Loft();
            for (Bird bird : birds.values()) {
                loft.birds.put(bird.number, bird.copy());
            }
            loft.shut = shut.clone();
            loft.settings = settings.clone();
            loft.dawn = dawn.clone();
            loft.day = day;
            loft.time = time;
            loft.shifts = shifts;
            loft.quarrels = quarrels;
            loft.steps = new ArrayList<>(steps);
            loft.stop = stop.clone();
            return loft;
        }

        Bird in(int hole) {
            for (Bird bird : birds.values()) {
                if (bird.at == hole) {
                    return bird;
                }
            }
            return null;
        }

        Bird ownerOf(int hole) {
            for (Bird bird : birds.values()) {
                if (bird.own == hole) {
                    return bird;
                }
            }
            return null;
        }

        int at(int lowest, int highest) {
            int n = 0;
            for (Bird bird : birds.values()) {
                n += bird.at >= lowest && bird.at <= highest ? 1 : 0;
            }
            return n;
        }

        int buyReason(int hole) {
            return birds.size() == 16 ? 5 : ownerOf(hole) != null ? 6 : shut[hole] ? 7 : 0;
        }

        int homeReason(int dove, int when) {
            return birds.get(dove).at != -1 ? 1 : when < time ? 2 : 0;
        }

        int mateReason(int a, int b) {
            return a == b ? 8 : birds.get(a).mate != -1 || birds.get(b).mate != -1 ? 9 : 0;
        }

        int shutReason(int hole) {
            return in(hole) != null ? 3 : shut[hole] ? 4 : 0;
        }

        int buy(int hole, int strength) {
            Bird bird = new Bird();
            while (birds.containsKey(bird.number)) {
                bird.number++;
            }
            bird.own = hole;
            bird.strength = strength;
            birds.put(bird.number, bird);
            return bird.number;
        }

        int sell(int dove) {
            Bird bird = birds.remove(dove);
            if (bird.mate != -1) {
                birds.get(bird.mate).mate = -1;
            }
            return bird.at;
        }

        void step(Bird bird, int place) {
            bird.at = place;
            steps.add(new int[] {bird.number, place});
        }

        int home(int dove, int when) {
            time = when;
            steps.clear();
            Bird bird = birds.get(dove);
            boolean inTime = when <= settings[0];
            bird.late += inTime ? 0 : 1;
            if (!inTime || shut[bird.own]) {
                return seek(bird, settings[1]);
            }
            Bird guest = in(bird.own);
            step(bird, bird.own);
            if (guest == null) {
                return 0;
            }
            if (settings[1] == 0) {
                guest.at = 24;
                return 0;
            }
            return 1 + shifted(bird, guest, settings[1] - 1);
        }

        int shifted(Bird by, Bird guest, int left) {
            shifts++;
            quarrels += by.mate == guest.number ? 0 : 1;
            guest.shifted++;
            guest.at = -1;
            return seek(guest, left);
        }

        int seek(Bird bird, int left) {
            List<Integer> holes = new ArrayList<>();
            Bird mate = birds.get(bird.mate);
            if (mate != null && mate.at >= 0 && mate.at < 24) {
                holes.add(mate.at - 1);
                holes.add(mate.at + 1);
            }
            for (int hole = bird.own; hole < 24; hole++) {
                holes.add(hole);
            }
            for (int hole = 0; hole < bird.own; hole++) {
                holes.add(hole);
            }
            for (int hole : holes) {
                if (hole >= 0 && hole < 24 && !shut[hole] && in(hole) == null) {
                    step(bird, hole);
                    return 0;
                }
            }
            int next = bird.own == 23 ? 0 : bird.own + 1;
            Bird guest = in(next);
            if (shut[next] || guest.strength >= bird.strength || left == 0) {
                step(bird, 24);
                return 0;
            }
            guest.at = -1;
            step(bird, next);
            return 1 + shifted(bird, guest, left - 1);
        }

        int dawn() {
            dawn = new int[4];
            for (Bird bird : birds.values()) {
                int kind = bird.at == bird.own ? 0 : bird.at == 24 ? 2 : bird.at == -1 ? 3 : 1;
                dawn[kind]++;
                bird.slept += kind == 0 ? 1 : 0;
                bird.absent += kind == 3 ? 1 : 0;
                bird.at = -1;
            }
            day++;
            time = 0;
            return dawn[0] + dawn[1];
        }

        int pairs() {
            int n = 0;
            for (Bird bird : birds.values()) {
                n += bird.mate > bird.number ? 1 : 0;
            }
            return n;
        }

        int openHoles() {
            int n = 0;
            for (boolean is : shut) {
                n += is ? 0 : 1;
            }
            return n;
        }

        int allHome(int when) {
            Loft trial = copy();
            for (Bird bird : trial.birds.values()) {
                if (bird.at == -1) {
                    trial.home(bird.number, when);
                }
            }
            return trial.at(0, 23);
        }
    }

    private static final class Model {
        static final String DOVE = "(?:1[0-5]|[0-9])";
        static final String HOLE = "(?:2[0-3]|1[0-9]|[0-9])";
        static final String TIME = "(?:14[0-3][0-9]|1[0-3][0-9][0-9]|[1-9][0-9][0-9]|[1-9][0-9]|[0-9])";
        static final String PART = "(?:h" + DOVE + "@" + TIME + "|b" + HOLE + "![1-9]|m" + DOVE + "\\+" + DOVE
            + "|[xo]" + HOLE + "|\\^)";
        static final Pattern EVENING = Pattern.compile(PART + "(?:;" + PART + ")*");

        Loft loft = new Loft();
        List<Loft> saved = new ArrayList<>();
        Loft kept;
        StringBuilder buffer = new StringBuilder();

        void save() {
            saved.add(loft.copy());
            if (saved.size() > 6) {
                saved.remove(0);
            }
        }

        void hole(int hole) {
            if (hole < 0 || hole > 23) {
                throw new IndexOutOfBoundsException();
            }
        }

        void bird(int dove) {
            if (!loft.birds.containsKey(dove)) {
                throw new IndexOutOfBoundsException();
            }
        }

        void argument(int value, int lowest, int highest) {
            if (value < lowest || value > highest) {
                throw new IllegalArgumentException();
            }
        }

        void reason(int reason) {
            if (reason != 0) {
                throw new IllegalStateException();
            }
        }

        long call(int call, int a, int b, int c) {
            switch (call) {
                case 0:
                    hole(a);
                    argument(b, 1, 9);
                    reason(loft.buyReason(a));
                    save();
                    return loft.buy(a, b);
                case 1:
                    bird(a);
                    save();
                    return loft.sell(a);
                case 2:
                    bird(a);
                    bird(b);
                    reason(loft.mateReason(a, b));
                    save();
                    loft.birds.get(a).mate = b;
                    loft.birds.get(b).mate = a;
                    return loft.pairs();
                case 3:
                    hole(a);
                    reason(loft.shutReason(a));
                    save();
                    loft.shut[a] = true;
                    return loft.openHoles();
                case 4:
                    hole(a);
                    save();
                    loft.shut[a] = false;
                    return loft.openHoles();
                case 5:
                    return set(a, b);
                case 6:
                    bird(a);
                    argument(b, 0, 1439);
                    reason(loft.homeReason(a, b));
                    save();
                    return loft.home(a, b);
                case 7:
                    save();
                    return loft.dawn();
                case 8:
                    argument(a, 33, 126);
                    reason(buffer.length() == 60 ? 1 : 0);
                    return buffer.append((char) a).length();
                case 9:
                    int had = buffer.length();
                    buffer.setLength(0);
                    return had;
                case 10:
                    return firstError();
                case 11:
                    return pass();
                case 12:
                    argument(a, 0, 1);
                    return loft.stop[a];
                case 13:
                    reason(saved.isEmpty() ? 1 : 0);
                    loft = saved.remove(saved.size() - 1);
                    return saved.size();
                case 14:
                    kept = loft.copy();
                    return loft.day;
                case 15:
                    reason(kept == null ? 1 : 0);
                    save();
                    loft = kept.copy();
                    return loft.day;
                default:
                    return look(call, a, b, c);
            }
        }

        long look(int call, int a, int b, int c) {
            switch (call) {
                case 16:
                    bird(a);
                    argument(b, 0, 7);
                    return birdNumber(a, b);
                case 17:
                    hole(a);
                    argument(b, 0, 2);
                    Bird bird = b == 0 ? loft.in(a) : loft.ownerOf(a);
                    return b == 2 ? (loft.shut[a] ? 0 : 1) : bird == null ? -1 : bird.number;
                case 18:
                    argument(a, 0, 17);
                    return counts()[a];
                case 19:
                    argument(a, 0, Integer.MAX_VALUE);
                    argument(b, 0, 1);
                    return a < loft.steps.size() ? loft.steps.get(a)[b] : -1;
                case 20:
                    bird(a);
                    argument(b, 0, 1439);
                    return loft.homeReason(a, b);
                case 21:
                    bird(a);
                    argument(b, 0, 1439);
                    argument(c, 0, 2);
                    return ifHome(a, b, c);
                case 22:
                    return freeHole();
                case 23:
                    return loft.allHome(1439) < loft.allHome(loft.time) ? 0 : 1;
                case 24:
                    return Double.doubleToLongBits(share());
                default:
                    return digest();
            }
        }

        int set(int setting, int value) {
            if (setting != 0 && setting != 1) {
                throw new IndexOutOfBoundsException();
            }
            argument(value, 0, setting == 0 ? 1439 : 24);
            save();
            int previous = loft.settings[setting];
            loft.settings[setting] = value;
            return previous;
        }

        int firstError() {
            for (int i = 0; i < buffer.length(); i++) {
                Matcher matcher = EVENING.matcher(buffer.substring(0, i + 1));
                if (!matcher.matches() && !matcher.hitEnd()) {
                    return i;
                }
            }
            return buffer.length();
        }

        int pass() {
            if (!EVENING.matcher(buffer).matches()) {
                throw new IllegalArgumentException();
            }
            save();
            String[] parts = buffer.toString().split(";");
            buffer.setLength(0);
            loft.stop = new int[] {-1, -1};
            for (int i = 0; i < parts.length; i++) {
                int reason = part(parts[i]);
                if (reason != 0) {
                    loft.stop = new int[] {i, reason};
                    return i;
                }
            }
            return parts.length;
        }

        int part(String part) {
            String[] texts = part.substring(1).split("[@!+]");
            int a = texts[0].isEmpty() ? 0 : Integer.parseInt(texts[0]);
            int b = texts.length < 2 ? 0 : Integer.parseInt(texts[1]);
            int call = "b mxo h^".indexOf(part.charAt(0));
            boolean known = loft.birds.containsKey(a) && (call == 6 || loft.birds.containsKey(b));
            if ((call == 2 || call == 6) && !known) {
                return 10;
            }
            int reason = call == 0 ? loft.buyReason(a) : call == 2 ? loft.mateReason(a, b)
                : call == 3 ? loft.shutReason(a) : call == 6 ? loft.homeReason(a, b) : 0;
            if (reason == 0) {
                List<Loft> before = new ArrayList<>(saved);
                call(call, a, b, 0);
                saved = before;
            }
            return reason;
        }

        int birdNumber(int dove, int what) {
            Bird bird = loft.birds.get(dove);
            return new int[] {bird.own, bird.strength, bird.at, bird.mate, bird.late, bird.shifted, bird.absent,
                bird.slept}[what];
        }

        int[] counts() {
            return new int[] {loft.day, loft.time, loft.birds.size(), loft.at(0, 23), loft.at(0, 23), loft.at(24, 24),
                loft.at(-1, -1), loft.openHoles(), loft.pairs(), loft.shifts, loft.quarrels, loft.dawn[0], loft.dawn[1],
                loft.dawn[2], loft.dawn[3], loft.settings[0], loft.settings[1], saved.size()};
        }

        int ifHome(int dove, int time, int what) {
            if (loft.homeReason(dove, time) != 0) {
                return -1;
            }
            Loft trial = loft.copy();
            int by = trial.home(dove, time);
            return what == 0 ? trial.birds.get(dove).at : what == 1 ? by : trial.at(24, 24) - loft.at(24, 24);
        }

        int freeHole() {
            int hole = 0;
            while (hole < 24 && (loft.shut[hole] || loft.ownerOf(hole) != null)) {
                hole++;
            }
            return hole == 24 ? -1 : hole;
        }

        double share() {
            int there = 0;
            for (Bird bird : loft.birds.values()) {
                there += bird.at == bird.own ? 1 : 0;
            }
            return loft.birds.isEmpty() ? 1.0 : (double) there / loft.birds.size();
        }

        long digest() {
            List<Long> list = new ArrayList<>();
            for (int count : counts()) {
                list.add((long) count);
            }
            for (int dove : loft.birds.keySet()) {
                list.add((long) dove);
                for (int what = 0; what < 8; what++) {
                    list.add((long) birdNumber(dove, what));
                }
                list.add((long) loft.homeReason(dove, 1439));
                for (int what = 0; what < 3; what++) {
                    list.add((long) ifHome(dove, 1439, what));
                }
            }
            for (int hole = 0; hole < 24; hole++) {
                for (int what = 0; what < 3; what++) {
                    list.add(look(17, hole, what, 0));
                }
            }
            for (int[] step : loft.steps) {
                list.add((long) step[0]);
                list.add((long) step[1]);
            }
            list.addAll(Arrays.asList((long) loft.stop[0], (long) loft.stop[1], (long) freeHole(), look(23, 0, 0, 0)));
            list.add(Double.doubleToLongBits(share()));
            list.add((long) buffer.length());
            for (int i = 0; i < buffer.length(); i++) {
                list.add((long) buffer.charAt(i));
            }
            long hash = 3889;
            for (long value : list) {
                hash = 31 * hash + value;
            }
            return hash;
        }
    }

    private static final String[] NAMES = {"buy", "sell", "mate", "shut", "open", "set", "home", "dawn", "append",
        "clearBuffer", "firstError", "pass", "stopped", "undo", "keep", "restore", "dove", "hole", "count", "step",
        "whyNot", "ifHome", "freeHole", "lateIsAsGood", "homeShare", "digest"};

    private static long call(LateDoves cote, int call, int a, int b, int c) {
        switch (call) {
            case 0: return cote.buy(a, b);
            case 1: return cote.sell(a);
            case 2: return cote.mate(a, b);
            case 3: return cote.shut(a);
            case 4: return cote.open(a);
            case 5: return cote.set(a, b);
            case 6: return cote.home(a, b);
            case 7: return cote.dawn();
            case 8: return cote.append(a);
            case 9: return cote.clearBuffer();
            case 10: return cote.firstError();
            case 11: return cote.pass();
            case 12: return cote.stopped(a);
            case 13: return cote.undo();
            case 14: return cote.keep();
            case 15: return cote.restore();
            case 16: return cote.dove(a, b);
            case 17: return cote.hole(a, b);
            case 18: return cote.count(a);
            case 19: return cote.step(a, b);
            case 20: return cote.whyNot(a, b);
            case 21: return cote.ifHome(a, b, c);
            case 22: return cote.freeHole();
            case 23: return cote.lateIsAsGood();
            case 24: return Double.doubleToLongBits(cote.homeShare());
            default: return cote.digest();
        }
    }

    private static String answer(LateDoves cote, Model model, int call, int[] n) {
        try {
            return String.valueOf(cote != null ? call(cote, call, n[0], n[1], n[2]) : model.call(call, n[0], n[1], n[2]));
        } catch (RuntimeException e) {
            return "throws." + e.getClass().getSimpleName();
        }
    }

    /** Makes a call of both, as long as the object has calls left; true if they answer alike and hold the same. */
    private static boolean both(LateDoves cote, Model model, int call, int... n) {
        if (callsLeft < 2) {
            return true;
        }
        callsLeft -= 2;
        String want = answer(null, model, call, n);
        String got = answer(cote, model, call, n);
        String what = NAMES[call] + Arrays.toString(n);
        Check.dueText(what, got, want);
        String digest = answer(null, model, 25, n);
        String gotDigest = answer(cote, model, 25, n);
        Check.dueText("digest() behind " + what, gotDigest, digest);
        return want.equals(got) && digest.equals(gotDigest);
    }

    private static int wild() {
        int[] wild = {-1, 0, 1, 2, 7, 8, 9, 10, 15, 16, 17, 18, 23, 24, 25, 1439, 1440, -2, Integer.MAX_VALUE,
            Integer.MIN_VALUE};
        return wild[below(wild.length)];
    }

    private static int time(Model model) {
        int now = model.loft.time;
        return below(3) == 0 ? below(1440) : Math.min(1439, now + below(3) * below(120));
    }

    /** Buys many doves and shuts many holes, so that the evenings are crowded. */
    private static boolean crowd(LateDoves cote, Model model) {
        boolean well = true;
        int doves = below(17);
        int from = below(24);
        boolean dense = below(2) == 0;
        if (below(4) == 0) {
            return row(cote, model, from);
        }
        for (int i = 0; i < doves && well; i++) {
            int hole = dense ? (from + i) % 24 : below(24);
            int strength = dense && below(3) > 0 ? Math.max(1, 9 - i / 2 - below(2)) : 1 + below(9);
            well = both(cote, model, 0, hole, strength, 0);
        }
        int left = 1 + below(10);
        for (int i = 0; i < 24 && well; i++) {
            int hole = (from + i) % 24;
            boolean shuts = dense ? i == 0 || i > left : below(2) == 0;
            well = !shuts || both(cote, model, 3, hole, 0, 0);
        }
        return well;
    }

    /** As Cotes.longRow(), but at any hole, and now and then with one dove less. */
    private static boolean row(LateDoves cote, Model model, int from) {
        boolean well = both(cote, model, 0, (from + 12) % 24, 1 + below(9), 0)
            && both(cote, model, 5, 1, 4 + below(9), 0);
        for (int i = 0; i < 9 && well; i++) {
            well = both(cote, model, 0, (from + i) % 24, 9 - i, 0);
        }
        for (int i = 0; i < 24 && well; i++) {
            boolean stays = i == 12 || i >= 1 && i <= 8;
            well = stays || both(cote, model, 3, (from + i) % 24, 0, 0);
        }
        for (int dove = 9; dove > 0 && well; dove--) {
            well = below(20) == 0 || both(cote, model, 6, dove, 0, 0);
        }
        return well;
    }

    private static String part() {
        switch (below(8)) {
            case 0: return "b" + below(24) + "!" + (1 + below(9));
            case 1: return "m" + below(16) + "+" + below(16);
            case 2: return "x" + below(24);
            case 3: return "o" + below(24);
            case 4: return below(3) == 0 ? "^" : "o" + below(24);
            default: return "h" + below(16) + "@" + (below(3) == 0 ? below(1440) : 1000 + below(440));
        }
    }

    private static boolean text(LateDoves cote, Model model) {
        StringBuilder text = new StringBuilder(part());
        for (int i = below(5); i > 0; i--) {
            text.append(';').append(part());
        }
        if (below(4) == 0) {
            text.setCharAt(below(text.length()), "hbmxo^;@!+0123456789~".charAt(below(21)));
        }
        boolean well = below(5) == 0 || both(cote, model, 9, 0, 0, 0);
        for (int i = 0; i < text.length() && well; i++) {
            well = both(cote, model, 8, text.charAt(i), 0, 0);
        }
        return well && both(cote, model, 10, 0, 0, 0) && both(cote, model, 11, 0, 0, 0)
            && both(cote, model, 12, below(2), 0, 0);
    }

    private static boolean next(LateDoves cote, Model model) {
        int chance = below(100);
        if (chance < 45) {
            return both(cote, model, 6, below(16), time(model), 0);
        }
        if (chance < 50) {
            return both(cote, model, 7, 0, 0, 0);
        }
        if (chance < 53) {
            return text(cote, model);
        }
        if (chance < 55) {
            int setting = below(2);
            return both(cote, model, 5, setting, below(setting == 0 ? 1500 : 12), 0);
        }
        if (chance < 65) {
            return both(cote, model, 21, below(16), time(model), below(3));
        }
        if (chance < 73) {
            return both(cote, model, below(25), below(24), below(10), below(3));
        }
        if (chance < 78) {
            return both(cote, model, 13 + below(3), 0, 0, 0);
        }
        return both(cote, model, 16 + below(10), wild(), wild(), wild());
    }

    public static void main(String[] args) {
        int longest = 0;
        for (int run = 0; run < RUNS; run++) {
            LateDoves cote = new LateDoves();
            callsLeft = CALLS;
            Model model = new Model();
            boolean well = crowd(cote, model);
            while (well && callsLeft >= 2) {
                well = next(cote, model);
                longest = Math.max(longest, model.loft.steps.size());
            }
            if (!well) {
                System.out.println("run " + run + " went wrong");
                break;
            }
        }
        System.out.println("the longest way of shifts: " + longest + " steps");
        Check.end();
    }
}
