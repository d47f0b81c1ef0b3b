import java.util.Random;

/** Random runs of calls, each answered by the class and by Naive alike; and wild arguments, that never throw. */
public final class OracleTest {
    private static final Check check = new Check();
    private static final int RUNS = 400;
    private static final int CALLS = 450;
    private static final int WILD_RUNS = 600;
    // some 150 calls each: more would go beyond the 512 of one object
    private static final int WILD_ROUNDS = 3;

    public static void main(String[] args) {
        for (int run = 0; run < RUNS; run++) {
            oneRun(run);
        }
        for (int run = 0; run < WILD_RUNS; run++) {
            wildRun(run);
        }
        check.end();
    }

    private static String randomText(Random random) {
        StringBuilder text = new StringBuilder("P");
        text.append(random.nextInt(10)).append(1 + random.nextInt(3));
        int letters = random.nextInt(7);
        for (int i = 0; i < letters; i++) {
            text.append('L').append(random.nextInt(10)).append(random.nextInt(4));
        }
        boolean[] told = new boolean[36];
        int pairs = letters < 2 ? 0 : random.nextInt(10);
        for (int i = 0; i < pairs; i++) {
            int one = random.nextInt(letters);
            int two = random.nextInt(letters);
            if (one != two && !told[one * 6 + two] && text.length() <= 45) {
                told[one * 6 + two] = true;
                text.append('E').append(one).append(two);
            }
        }
        return text.toString();
    }

    private static String faultyText(Random random) {
        StringBuilder text = new StringBuilder(randomText(random));
        String signs = "PLE0123456789xe:/";
        int changes = random.nextInt(3);
        for (int i = 0; i < changes; i++) {
            text.setCharAt(random.nextInt(text.length()), signs.charAt(random.nextInt(signs.length())));
        }
        if (random.nextInt(2) == 0) {
            text.append("EL".charAt(random.nextInt(2))).append((char) ('0' + random.nextInt(7)));
        }
        text.setLength(random.nextInt(3) == 0 ? random.nextInt(text.length() + 1) : text.length());
        return text.toString();
    }

    private static void tell(WaitedPost post, Naive naive, String text) {
        check.due("wipe()", post.wipe(), naive.wipe());
        for (int i = 0; i < text.length(); i++) {
            check.due("write()", post.write(text.charAt(i)), naive.write(text.charAt(i)));
        }
        check.due("fault() of " + text, post.fault(), naive.fault());
    }

    private static void oneRun(int run) {
        Random random = new Random(run);
        WaitedPost post = new WaitedPost();
        Naive naive = new Naive();
        String text = randomText(random);
        check.promise("run " + run + " of " + text);
        tell(post, naive, text);
        check.due("post()", post.post(), naive.post());
        int calls = text.length() + 3;
        while (calls < CALLS) {
            if (random.nextInt(60) == 0) {
                String next = faultyText(random);
                tell(post, naive, next);
                check.due("post() of " + next, post.post(), naive.post());
                calls += 60;
            }
            oneCall(random, post, naive);
            calls++;
        }
    }

    /** Mostly a number that is in its bounds, and at times one just outside. */
    private static int near(Random random, int most) {
        return random.nextInt(25) == 0 ? random.nextInt(2) * (most + 2) - 1 : random.nextInt(most + 1);
    }

    private static void oneCall(Random random, WaitedPost post, Naive naive) {
        int letter = near(random, Math.max(0, naive.world.letters.size() - 1));
        int p = random.nextInt(3) == 0 ? near(random, 60) : random.nextInt(12);
        boolean upper = random.nextBoolean();
        switch (random.nextInt(32)) {
            case 0: case 1: case 2:
                check.due("day()", post.day(), naive.day());
                break;
            case 3: case 4: case 5:
                check.due("send(" + letter + ")", post.send(letter), naive.send(letter));
                break;
            case 6:
                check.due("tear(" + letter + ")", post.tear(letter), naive.tear(letter));
                break;
            case 7:
                check.due("card(" + letter + ")", post.card(letter), naive.card(letter));
                break;
            case 8: case 9: case 10: case 11:
                check.due("undo()", post.undo(), naive.undo());
                break;
            case 12: {
                int what = near(random, 6);
                check.due("letter(" + letter + ", " + what + ")", post.letter(letter, what), naive.letter(letter, what));
                break;
            }
            case 13: {
                int n = near(random, 9);
                check.due("price(" + letter + ", " + n + ")", post.price(letter, n), naive.price(letter, n));
                break;
            }
            case 14:
                check.due("cheapest(" + letter + ")", post.cheapest(letter), naive.cheapest(letter));
                break;
            case 15: case 16: {
                int set = near(random, (1 << naive.world.letters.size()) - 1);
                int left = random.nextInt(4) == 0 ? set : set & ~naive.count(5);
                check.due("plan(" + left + ", " + upper + ")", post.plan(left, upper), naive.plan(left, upper));
                break;
            }
            case 17:
                check.due("order()", post.order(), naive.order());
                break;
            case 18: case 19: {
                int n = near(random, 6);
                int row = near(random, (int) Math.pow(10, Math.max(0, n)) - 1);
                check.due("judge(" + n + ", " + row + ")", post.judge(n, row), naive.judge(n, row));
                check.due("cost(" + n + ", " + row + ")", post.cost(n, row), naive.cost(n, row));
                break;
            }
            case 20:
                check.due("waits(" + letter + ", " + p + ")", post.waits(letter, p), naive.waits(letter, p));
                break;
            case 21: case 22: {
                int what = near(random, 2);
                int now = random.nextInt(2) == 0 && post.letter(letter, 6) >= 0 ? post.letter(letter, 6) : p;
                check.due("who(" + letter + ", " + now + ", " + what + ")", post.who(letter, now, what),
                    naive.who(letter, now, what));
                break;
            }
            case 23:
                if (random.nextInt(4) == 0) {
                    check.due("share(" + letter + ", " + upper + ")", post.share(letter, upper), naive.share(letter, upper));
                }
                break;
            case 24: case 25: {
                int other = near(random, Math.max(0, naive.world.letters.size() - 1));
                int what = near(random, 1);
                check.due("rests(" + letter + ", " + other + ", " + what + ")", post.rests(letter, other, what),
                    naive.rests(letter, other, what));
                break;
            }
            case 26: case 27: {
                int x = near(random, 10);
                boolean near = random.nextInt(2) == 0 && post.letter(letter, 6) >= 0;
                int now = near ? post.letter(letter, 6) + random.nextInt(4) : p;
                check.due("lost(" + letter + ", " + now + ", " + x + ", " + upper + ")", post.lost(letter, now, x, upper),
                    naive.lost(letter, now, x, upper));
                break;
            }
            case 28: {
                long v = random.nextLong();
                check.due("seed(" + v + ")", post.seed(v), naive.seed(v));
                break;
            }
            case 29: {
                int m = near(random, 30);
                check.due("years(" + m + ")", post.years(m), naive.years(m));
                break;
            }
            case 30: {
                int slot = near(random, 1);
                check.due("keep(" + slot + ")", post.keep(slot), naive.keep(slot));
                int back = near(random, 1);
                if (random.nextInt(2) == 0) {
                    check.due("again(" + back + ")", post.again(back), naive.again(back));
                }
                break;
            }
            default: {
                int what = near(random, 9);
                check.due("count(" + what + ")", post.count(what), naive.count(what));
            }
        }
    }

    private static int wild(Random random) {
        int[] some = {Integer.MIN_VALUE, Integer.MAX_VALUE, -1, 0, 1, 5, 6, 31, 32, 63, 64, 1 << 31, random.nextInt()};
        return some[random.nextInt(some.length)];
    }

    /** No call may throw, and none but the acts, slots and the seed may change what is told. */
    private static void wildRun(int run) {
        Random random = new Random(-1 - run);
        check.promise("wild run " + run);
        WaitedPost post = Check.posted(randomText(random));
        for (int i = 0; i < WILD_ROUNDS; i++) {
            for (int act = 0; act < 3; act++) {
                post.send(random.nextInt(6));
                post.tear(random.nextInt(12));
                post.card(random.nextInt(12));
                post.day();
            }
            String before = Check.view(post);
            int a = wild(random);
            int b = wild(random);
            int c = wild(random);
            post.letter(a, b);
            post.price(a, b);
            post.cheapest(a);
            post.plan(a, b > 0);
            post.order();
            post.judge(a, b);
            post.cost(a, b);
            post.waits(a, b);
            post.who(a, b, c);
            post.share(a, b > 0);
            post.rests(a, b, c);
            post.lost(a, b, c, a > 0);
            post.years(a);
            post.count(a);
            post.fault();
            post.keep(a);
            check.due("nothing changed", Check.view(post).equals(before));
            post.write(a);
            post.again(b);
            post.send(c);
            post.tear(c);
            post.card(c);
        }
    }
}
