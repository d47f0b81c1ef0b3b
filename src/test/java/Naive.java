import java.math.BigInteger;
import java.util.ArrayList;
import java.util.Arrays;
import java.util.HashMap;
import java.util.List;
import java.util.Map;

/**
 * The document told a second time, as plainly and dearly as can be: whole rows, orders and sets are tried out, and
 * every state is a copy. OracleTest holds the class against it.
 */
final class Naive {
    static final int UNKNOWN = -1, OUTSIDE = -2, STATE = -3, FULL = -4, NONE = -9;

    static final class Letter implements Cloneable {
        int waited;
        int kind;
        boolean sent;
        boolean torn;
        int clock;
        List<Integer> explainers = new ArrayList<>();

        Letter copy() {
            try {
                return (Letter) clone();
            } catch (CloneNotSupportedException e) {
                throw new IllegalStateException(e);
            }
        }
    }

    static final class World {
        int day;
        int sentToday;
        int paid;
        List<Letter> letters = new ArrayList<>();

        World copy() {
            World other = new World();
            other.day = day;
            other.sentToday = sentToday;
            other.paid = paid;
            for (Letter letter : letters) {
                other.letters.add(letter.copy());
            }
            return other;
        }
    }

    String text = "";
    int pardon = 0;
    int room = 1;
    World world = new World();
    List<World> past = new ArrayList<>();
    World[] slots = new World[2];
    long seed = 0;

    // ---- the post

    int write(int letter) {
        if (letter < 0 || letter > 255) return OUTSIDE;
        if (text.length() == 48) return FULL;
        text += (char) letter;
        return text.length();
    }

    int wipe() {
        int was = text.length();
        text = "";
        return was;
    }

    private static List<String> parts(String whole) {
        List<String> parts = new ArrayList<>();
        for (int i = 0; i < whole.length(); i += 3) {
            parts.add(whole.substring(i, i + 3));
        }
        return parts;
    }

    /** Whether the text is a whole post. */
    private static boolean isPost(String whole) {
        if (whole.length() % 3 != 0 || !whole.matches("P[0-9][1-3](L[0-9][0-3]|E[0-5][0-5])*")) return false;
        int letters = 0;
        List<String> pairs = new ArrayList<>();
        for (String part : parts(whole.substring(3))) {
            if (part.charAt(0) == 'L') {
                letters++;
            } else {
                boolean told = part.charAt(1) - '0' < letters && part.charAt(2) - '0' < letters;
                if (!told || part.charAt(1) == part.charAt(2) || pairs.contains(part)) return false;
                pairs.add(part);
            }
        }
        return letters <= 6;
    }

    /** Whether some post begins with the text: at most two letters more make one, if one can be made. */
    private static boolean canBecomePost(String start) {
        if (isPost(start)) return true;
        if (start.isEmpty()) return true;
        String signs = "0123456789";
        for (char one : signs.toCharArray()) {
            if (isPost(start + one)) return true;
            for (char other : signs.toCharArray()) {
                if (isPost(start + one + other)) return true;
            }
        }
        return false;
    }

    int fault() {
        for (int place = 0; place < text.length(); place++) {
            if (!canBecomePost(text.substring(0, place + 1))) return place;
        }
        return isPost(text) ? NONE : text.length();
    }

    int post() {
        if (fault() != NONE) return STATE;
        pardon = text.charAt(1) - '0';
        room = text.charAt(2) - '0';
        world = new World();
        past.clear();
        slots = new World[2];
        for (String part : parts(text.substring(3))) {
            int one = part.charAt(1) - '0';
            int two = part.charAt(2) - '0';
            if (part.charAt(0) == 'L') {
                Letter letter = new Letter();
                letter.waited = one;
                letter.kind = two;
                world.letters.add(letter);
            } else {
                world.letters.get(two).explainers.add(one);
            }
        }
        return world.letters.size();
    }

    private boolean unknown(int letter) {
        return letter < 0 || letter >= world.letters.size();
    }

    private boolean isSent(int letter) {
        return world.letters.get(letter).sent;
    }

    private int price(World w, int number) {
        Letter letter = w.letters.get(number);
        int rate = new int[] {1, 2, 3, 0}[letter.kind];
        int price = letter.waited * rate;
        if (letter.torn) price *= 2;
        for (int by : letter.explainers) {
            if (w.letters.get(by).sent) price -= 3;
        }
        if (price < 0) price = 0;
        return w.day == pardon ? price / 2 : price;
    }

    private static int bits(List<Integer> numbers) {
        int bits = 0;
        for (int number : numbers) bits += 1 << number;
        return bits;
    }

    int letter(int number, int what) {
        if (unknown(number)) return UNKNOWN;
        if (what < 0 || what > 6) return OUTSIDE;
        Letter letter = world.letters.get(number);
        int price = letter.sent ? NONE : price(world, number);
        return new int[] {letter.waited, letter.kind, bits(letter.explainers), letter.sent ? 1 : 0, letter.torn ? 1 : 0,
            letter.clock, price}[what];
    }

    // ---- acts

    private void act() {
        past.add(world.copy());
        if (past.size() > 14) past.remove(0);
    }

    private boolean sendIn(World w, int number) {
        if (number < 0 || number >= w.letters.size() || w.letters.get(number).sent || w.sentToday >= room) return false;
        w.paid += price(w, number);
        w.letters.get(number).sent = true;
        w.sentToday++;
        return true;
    }

    private static void dayIn(World w) {
        for (Letter letter : w.letters) {
            if (letter.sent) continue;
            if (letter.clock > 0) letter.clock--;
            else if (letter.waited < 99) letter.waited++;
        }
        w.day++;
        w.sentToday = 0;
    }

    int send(int number) {
        if (unknown(number)) return UNKNOWN;
        if (isSent(number)) return STATE;
        if (world.sentToday >= room) return FULL;
        act();
        int before = world.paid;
        sendIn(world, number);
        return world.paid - before;
    }

    int day() {
        act();
        dayIn(world);
        return world.day;
    }

    int tear(int number) {
        if (unknown(number)) return UNKNOWN;
        if (isSent(number) || world.letters.get(number).torn) return STATE;
        act();
        int was = world.letters.get(number).waited;
        world.letters.get(number).waited = 0;
        world.letters.get(number).torn = true;
        return was;
    }

    int card(int number) {
        if (unknown(number)) return UNKNOWN;
        if (isSent(number) || world.letters.get(number).clock > 0) return STATE;
        act();
        world.letters.get(number).clock = 3;
        return price(world, number);
    }

    int undo() {
        if (past.isEmpty()) return STATE;
        world = past.remove(past.size() - 1);
        return past.size();
    }

    // ---- prices

    private World in(int days) {
        World w = world.copy();
        for (int i = 0; i < days; i++) dayIn(w);
        return w;
    }

    int price(int number, int n) {
        if (unknown(number)) return UNKNOWN;
        if (n < 0 || n > 9) return OUTSIDE;
        if (isSent(number)) return STATE;
        return price(in(n), number);
    }

    int cheapest(int number) {
        if (unknown(number)) return UNKNOWN;
        if (isSent(number)) return STATE;
        int best = 9;
        for (int n = 9; n >= 0; n--) {
            if (price(number, n) <= price(number, best)) best = n;
        }
        return best;
    }

    /** What the set pays by a row of days, played day by day; -1: there is no room. */
    private int playRow(List<Integer> set, int[] row) {
        World w = world.copy();
        for (int d = 0; d < 4; d++) {
            for (int i = 0; i < row.length; i++) {
                if (row[i] == d && !sendIn(w, set.get(i))) return -1;
            }
            dayIn(w);
        }
        return w.paid - world.paid;
    }

    private final Map<Integer, int[]> planned = new HashMap<>();

    /** The least pay and the first such row; null: there is no room. */
    private int[] bestRow(int letters) {
        if (planned.containsKey(letters)) return planned.get(letters);
        List<Integer> set = new ArrayList<>();
        for (int i = 0; i < 6; i++) {
            if ((letters >> i & 1) == 1) set.add(i);
        }
        int[] best = null;
        for (int number = 0; number < Math.pow(4, set.size()); number++) {
            int[] row = new int[set.size()];
            int told = 0;
            for (int i = 0; i < row.length; i++) {
                row[i] = (int) (number / Math.pow(4, row.length - 1 - i)) % 4;
                told = told * 10 + row[i];
            }
            int paid = playRow(set, row);
            if (paid >= 0 && (best == null || paid < best[0])) best = new int[] {paid, told};
        }
        planned.put(letters, best);
        return best;
    }

    int plan(int letters, boolean row) {
        if (letters < 0 || letters >= 1 << world.letters.size()) return OUTSIDE;
        for (int i = 0; i < world.letters.size(); i++) {
            if ((letters >> i & 1) == 1 && isSent(i)) return STATE;
        }
        planned.clear();
        int[] best = bestRow(letters);
        return best == null ? NONE : best[row ? 1 : 0];
    }

    private List<Integer> left() {
        List<Integer> left = new ArrayList<>();
        for (int i = 0; i < world.letters.size(); i++) {
            if (!isSent(i)) left.add(i);
        }
        return left;
    }

    private static List<List<Integer>> orders(List<Integer> set) {
        List<List<Integer>> all = new ArrayList<>();
        if (set.isEmpty()) all.add(new ArrayList<>());
        for (int first : set) {
            List<Integer> rest = new ArrayList<>(set);
            rest.remove((Integer) first);
            for (List<Integer> order : orders(rest)) {
                order.add(0, first);
                all.add(order);
            }
        }
        return all;
    }

    int order() {
        if (left().isEmpty()) return NONE;
        int least = NONE;
        for (List<Integer> order : orders(left())) {
            boolean holds = true;
            int figures = 0;
            for (int i = 0; i < order.size(); i++) {
                figures = figures * 10 + order.get(i) + 1;
                for (int j = i + 1; j < order.size(); j++) {
                    holds &= !world.letters.get(order.get(i)).explainers.contains(order.get(j));
                }
            }
            if (holds && (least == NONE || figures < least)) least = figures;
        }
        return least;
    }

    /** The place of the first that can not be, and what is paid. */
    private int[] things(int n, int row) {
        if (n < 1 || n > 6 || row < 0 || row >= Math.pow(10, n)) return null;
        String figures = String.format("%0" + n + "d", row);
        World w = world.copy();
        int first = NONE;
        for (int i = 0; i < n; i++) {
            char figure = figures.charAt(i);
            if (figure == '0') dayIn(w);
            else if (figure != '9' && !sendIn(w, figure - '1') && first == NONE) first = i;
        }
        return new int[] {first, w.paid - world.paid};
    }

    int judge(int n, int row) {
        int[] done = things(n, row);
        return done == null ? OUTSIDE : done[0];
    }

    int cost(int n, int row) {
        int[] done = things(n, row);
        return done == null ? OUTSIDE : done[1];
    }

    // ---- how long, who

    int waits(int number, int p) {
        if (unknown(number)) return UNKNOWN;
        if (p < 0 || p > 60) return OUTSIDE;
        if (isSent(number)) return STATE;
        int bits = 0;
        for (int waited = 0; waited < 10; waited++) {
            World w = world.copy();
            w.letters.get(number).waited = waited;
            if (price(w, number) == p) bits += 1 << waited;
        }
        return bits;
    }

    int who(int number, int p, int what) {
        if (unknown(number)) return UNKNOWN;
        if (p < 0 || p > 60 || what < 0 || what > 2) return OUTSIDE;
        if (isSent(number)) return STATE;
        List<Integer> sets = new ArrayList<>();
        int explainers = bits(world.letters.get(number).explainers);
        for (int set = 0; set < 64; set++) {
            if ((set | explainers) != explainers) continue;
            World w = world.copy();
            for (int i = 0; i < w.letters.size(); i++) w.letters.get(i).sent = (set >> i & 1) == 1;
            if (price(w, number) == p) sets.add(set);
        }
        if (what == 0) return sets.size();
        if (sets.isEmpty()) return NONE;
        int bits = 0;
        for (int i = 0; i < 6; i++) {
            if ((explainers >> i & 1) == 0) continue;
            int many = 0;
            for (int set : sets) many += set >> i & 1;
            if (many == (what == 1 ? sets.size() : 0)) bits += 1 << i;
        }
        return bits;
    }

    // ---- shares, rests, chances

    private static int part(long above, long below, boolean upper) {
        long common = BigInteger.valueOf(above).gcd(BigInteger.valueOf(below)).longValue();
        return (int) ((upper ? above : below) / common);
    }

    private int planOrElse(int set) {
        int[] best = bestRow(set);
        return best == null ? 999 : best[0];
    }

    int share(int number, boolean upper) {
        if (unknown(number)) return UNKNOWN;
        if (isSent(number)) return upper ? 0 : 1;
        planned.clear();
        List<List<Integer>> orders = orders(left());
        long sum = 0;
        for (List<Integer> order : orders) {
            int come = bits(order.subList(0, order.indexOf(number)));
            sum += planOrElse(come | 1 << number) - planOrElse(come);
        }
        return part(sum, orders.size(), upper);
    }

    private int restPay(int number, int n, int other, int m) {
        World w = in(n);
        if (m < n) w.letters.get(other).sent = true;
        return price(w, number) + (n == m ? 2 : 0);
    }

    int rests(int one, int other, int what) {
        if (unknown(one) || unknown(other)) return UNKNOWN;
        if (one == other || what < 0 || what > 1) return OUTSIDE;
        if (isSent(one) || isSent(other)) return STATE;
        List<Integer> pairs = new ArrayList<>();
        for (int n = 0; n < 4; n++) {
            for (int m = 0; m < 4; m++) {
                boolean rests = true;
                for (int d = 0; d < 4; d++) {
                    rests &= restPay(one, d, other, m) >= restPay(one, n, other, m);
                    rests &= restPay(other, d, one, n) >= restPay(other, m, one, n);
                }
                if (rests) pairs.add(10 * n + m);
            }
        }
        if (what == 0) return pairs.size();
        return pairs.isEmpty() ? NONE : pairs.get(0);
    }

    int lost(int number, int p, int x, boolean upper) {
        if (unknown(number)) return UNKNOWN;
        if (p < 0 || p > 60 || x < 0 || x > 10) return OUTSIDE;
        if (isSent(number)) return STATE;
        List<Integer> told = new ArrayList<>(world.letters.get(number).explainers);
        told.removeIf(by -> !isSent(by));
        long likely = 0;
        long all = 1;
        for (int i = 0; i < told.size(); i++) all *= 10;
        // each of ten equal tenths for each letter: the first x of them lose it
        for (long draw = 0; draw < all; draw++) {
            World w = world.copy();
            long rest = draw;
            for (int by : told) {
                if (rest % 10 < x) w.letters.get(by).sent = false;
                rest /= 10;
            }
            if (price(w, number) <= p) likely++;
        }
        return part(likely, all, upper);
    }

    long seed(long v) {
        long was = seed;
        seed = v;
        return was;
    }

    int years(int m) {
        if (m < 1 || m > 30) return OUTSIDE;
        World w = world.copy();
        BigInteger whole = BigInteger.ONE.shiftLeft(64);
        for (int i = 0; i < m; i++) {
            BigInteger x = BigInteger.valueOf(seed).multiply(new BigInteger("6364136223846793005"))
                .add(new BigInteger("1442695040888963407")).mod(whole);
            seed = x.longValue();
            int drawn = x.shiftRight(33).mod(BigInteger.valueOf(9)).intValue();
            if (drawn < 6) sendIn(w, drawn);
            else dayIn(w);
        }
        return w.paid - world.paid;
    }

    // ---- slots

    int keep(int slot) {
        if (slot < 0 || slot > 1) return UNKNOWN;
        slots[slot] = world.copy();
        return world.day;
    }

    int again(int slot) {
        if (slot < 0 || slot > 1) return UNKNOWN;
        if (slots[slot] == null) return STATE;
        world = slots[slot].copy();
        past.clear();
        return world.day;
    }

    int count(int what) {
        if (what < 0 || what > 9) return OUTSIDE;
        int prices = 0;
        for (int i : left()) prices += price(world, i);
        int sent = (1 << world.letters.size()) - 1 - bits(left());
        return Arrays.asList(text.length(), world.letters.size(), pardon, room, world.day, sent, world.sentToday, world.paid,
            prices, past.size()).get(what);
    }
}
