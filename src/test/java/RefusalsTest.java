import java.util.List;
import java.util.function.Supplier;
import java.util.function.ToLongFunction;

/** Refused calls of each promise, in the order in which it names the refusals, and that they change nothing. */
public final class RefusalsTest {
    private static final Check check = new Check();
    private static final int UNKNOWN = WaitedPost.UNKNOWN;
    private static final int OUTSIDE = WaitedPost.OUTSIDE;
    private static final int STATE = WaitedPost.STATE;
    private static final int FULL = WaitedPost.FULL;
    private static final int NONE = WaitedPost.NONE;
    private static final String TEXT = "P52L51L32L43L91L70E01E12E34";
    private static final String FULL_TEXT = "P02L50L51L52L53L90L91E01E02E03E04E05E10E12E13E14";

    public static void main(String[] args) {
        laterTellsWhatIsDone();
        promise2OutsideFull();
        promise5State();
        promise6UnknownOutside();
        promise7UnknownStateFull();
        promise9UnknownState();
        promise10UnknownState();
        promise11State();
        promise12UnknownOutsideState();
        promise13UnknownState();
        promise14OutsideStateNone();
        promise15None();
        promise16Outside();
        promise17Outside();
        promise18UnknownOutsideState();
        promise19UnknownOutsideState();
        promise20Unknown();
        promise21UnknownOutsideState();
        promise22UnknownOutsideState();
        promise24Outside();
        promise25Unknown();
        promise26UnknownState();
        promise27Outside();
        promise11RefusedActs();
        promise2TextAlone();
        promise3TextAlone();
        promise23SeedAlone();
        promise23SeedStays();
        noSuchLetter();
        noSuchSlot();
        numbersOfTheFace();
        fractionsLikewise();
        nothingIsChangedByAsking();
        check.end();
    }

    /** LETTERS 0 and 3 were SENT, on another DAY and on this one; 1 has a clock, 2 is TORN; there is room for one more. */
    private static WaitedPost busy() {
        WaitedPost post = Check.posted(TEXT);
        post.send(0);
        post.card(1);
        post.day();
        post.tear(2);
        post.keep(1);
        post.send(3);
        post.seed(7);
        return post;
    }

    /** As busy, but there is no room this DAY, and both SLOTS keep something else. */
    private static WaitedPost full() {
        WaitedPost post = Check.posted(TEXT);
        post.keep(0);
        post.send(0);
        post.card(1);
        post.day();
        post.tear(2);
        post.keep(1);
        post.send(3);
        post.send(4);
        post.seed(-9);
        return post;
    }

    /** As full, but THE ROW of ACTS is empty. */
    private static WaitedPost goneOn() {
        WaitedPost post = full();
        post.keep(1);
        post.again(1);
        return post;
    }

    /** 14 ACTS, so that one more forgets the first one; LETTER 1 is TORN, its clock stands, there is no room this DAY. */
    private static WaitedPost longRow() {
        WaitedPost post = busy();
        Check.days(post, 5);
        post.send(2);
        post.send(4);
        post.tear(1);
        post.card(1);
        return post;
    }

    /** LETTERS 0 and 1 EXPLAIN each other, the others were SENT: there is no ORDER. */
    private static WaitedPost ring() {
        return bySending("P32L52L31L70L92E01E10E20E31", 2);
    }

    /** As ring, but nothing is left. */
    private static WaitedPost allSent() {
        return bySending("P32L52L31L70L92E01E10E20E31", 0);
    }

    /** Five LETTERS that are not SENT, and room for one a DAY. */
    private static WaitedPost crowded() {
        return bySending("P31L52L31L70L83L91L10E01E10E20E31E05", 5);
    }

    /** THE TEXT is full, the last LETTER SENT. */
    private static WaitedPost written() {
        return bySending(FULL_TEXT, 5);
    }

    /** Sends the LETTERS from the last one down to the one told; ahead of that one is TORN, and a clock stands. */
    private static WaitedPost bySending(String text, int least) {
        WaitedPost post = Check.posted(text);
        post.keep(0);
        post.card(1);
        post.tear(0);
        post.day();
        post.tear(1);
        post.keep(1);
        int sent = 0;
        for (int letter = post.count(1) - 1; letter >= least; letter--) {
            if (sent > 0 && sent % post.count(3) == 0) {
                post.day();
            }
            post.send(letter);
            sent++;
        }
        post.seed(11);
        return post;
    }

    /** A POST behind which THE TEXT went on to a FAULT. */
    private static WaitedPost faulty() {
        WaitedPost post = full();
        post.write('L');
        return post;
    }

    /** Beside those one off the five LETTERS such as bits of an int wrap round to LETTERS 0 and 3, which were SENT. */
    private static final int[] NO_LETTERS = {-1, 5, 6, 32, 35, -32, -29, Integer.MIN_VALUE, Integer.MAX_VALUE};

    /** What is refused where there is room is refused likewise without room. */
    private static void refused(String call, ToLongFunction<WaitedPost> asked, long want) {
        boolean refusal = want < 0 && want != NONE;
        check.changesNothing(call, RefusalsTest::busy, asked, want);
        check.changesNothing(call + " without room", RefusalsTest::full, asked, refusal ? want : asked.applyAsLong(full()));
    }

    private static void behind48(String call, ToLongFunction<WaitedPost> asked, long want) {
        check.changesNothing(call + " behind 48", RefusalsTest::written, asked, want);
        check.changesNothing(call + " behind 48, nothing done", () -> Check.posted(FULL_TEXT), asked, want);
    }

    private static void promise2OutsideFull() {
        check.sentence(2, "OUTSIDE; FULL: there are 48.");
        int[] outside = {Integer.MIN_VALUE, -1, 256, Integer.MAX_VALUE};
        for (int letter : outside) {
            refused("write(" + letter + ")", post -> post.write(letter), OUTSIDE);
            behind48("write(" + letter + ")", post -> post.write(letter), OUTSIDE);
        }
        for (int letter : new int[] {0, 'E', 255}) {
            behind48("write(" + letter + ")", post -> post.write(letter), FULL);
            check.due("write(" + letter + ")", busy().write(letter), TEXT.length() + 1);
        }
    }

    private static void promise5State() {
        check.sentence(5, "STATE: a FAULT.");
        check.changesNothing("post() of a text not at its end", RefusalsTest::faulty, WaitedPost::post, STATE);
        String[] texts = {"", "P", "P0", "P04", "X01", "P01P", "P01L0", "P01L04", "P33L10E", "P33L10L20L30L40L50L60L"};
        for (String text : texts) {
            Supplier<WaitedPost> made = () -> {
                WaitedPost post = busy();
                Check.tell(post, text);
                return post;
            };
            check.changesNothing("post() of " + text, made, WaitedPost::post, STATE);
        }
        check.due("post() without that letter", busy().post(), 5);
        check.due("post() of P01", Check.told("P01").post(), 0);
        check.due("post() of P01L00", Check.told("P01L00").post(), 1);
    }

    private static void promise6UnknownOutside() {
        check.sentence(6, "UNKNOWN; OUTSIDE.");
        for (int what : new int[] {-1, 0, 6, 7}) {
            for (int letter : NO_LETTERS) {
                refused("letter(" + letter + ", " + what + ")", post -> post.letter(letter, what), UNKNOWN);
            }
        }
        for (int what : new int[] {Integer.MIN_VALUE, -1, 7, Integer.MAX_VALUE}) {
            refused("letter(0, " + what + ")", post -> post.letter(0, what), OUTSIDE);
            refused("letter(4, " + what + ")", post -> post.letter(4, what), OUTSIDE);
        }
        refused("letter(4, 0)", post -> post.letter(4, 0), 8);
        refused("letter(4, 6)", post -> post.letter(4, 6), 8 - 3);
        refused("letter(0, 6)", post -> post.letter(0, 6), NONE);
    }

    private static void promise7UnknownStateFull() {
        check.sentence(7, "UNKNOWN; STATE: it was SENT; FULL: there is no room this DAY.");
        for (int letter : NO_LETTERS) {
            refused("send(" + letter + ")", post -> post.send(letter), UNKNOWN);
        }
        for (int letter : new int[] {0, 3}) {
            refused("send(" + letter + ")", post -> post.send(letter), STATE);
        }
        for (int letter : new int[] {1, 2}) {
            check.changesNothing("send(" + letter + ") without room", RefusalsTest::full, post -> post.send(letter), FULL);
        }
        check.due("send(1) with room", busy().send(1), 9 - 3);
        check.due("send(4) with room", busy().send(4), 8 - 3);
    }

    private static void promise9UnknownState() {
        check.sentence(9, "UNKNOWN; STATE: it was SENT, or is TORN.");
        for (int letter : NO_LETTERS) {
            refused("tear(" + letter + ")", post -> post.tear(letter), UNKNOWN);
        }
        refused("tear(0)", post -> post.tear(0), STATE);
        refused("tear(3)", post -> post.tear(3), STATE);
        refused("tear(2)", post -> post.tear(2), STATE);
        Supplier<WaitedPost> both = () -> {
            WaitedPost post = busy();
            post.send(2);
            return post;
        };
        check.changesNothing("tear(2), SENT and TORN", both, post -> post.tear(2), STATE);
        check.due("tear(1), neither", busy().tear(1), 3);
        check.due("tear(4), neither", busy().tear(4), 8);
    }

    private static void promise10UnknownState() {
        check.sentence(10, "UNKNOWN; STATE: it was SENT, or its clock stands.");
        for (int letter : NO_LETTERS) {
            refused("card(" + letter + ")", post -> post.card(letter), UNKNOWN);
        }
        refused("card(0)", post -> post.card(0), STATE);
        refused("card(3)", post -> post.card(3), STATE);
        refused("card(1)", post -> post.card(1), STATE);
        Supplier<WaitedPost> both = () -> {
            WaitedPost post = busy();
            post.send(1);
            return post;
        };
        check.changesNothing("card(1), SENT with a clock", both, post -> post.card(1), STATE);
        check.due("card(2), neither", busy().card(2), 0);
        check.due("card(4), neither", busy().card(4), 8 - 3);
    }

    private static void promise11State() {
        check.sentence(11, "STATE: there is none.");
        check.changesNothing("undo() behind again(1)", RefusalsTest::goneOn, WaitedPost::undo, STATE);
        check.changesNothing("undo() of a new object", WaitedPost::new, WaitedPost::undo, STATE);
        Supplier<WaitedPost> undone = () -> {
            WaitedPost post = busy();
            for (int left = 4; left >= 0; left--) {
                post.undo();
            }
            return post;
        };
        check.changesNothing("undo() of five, the sixth time", undone, WaitedPost::undo, STATE);
        check.due("undo() of five", busy().undo(), 4);
    }

    private static void promise12UnknownOutsideState() {
        check.sentence(12, "UNKNOWN; OUTSIDE: n; STATE: it was SENT.");
        for (int n : new int[] {-1, 0, 9, 10}) {
            for (int letter : NO_LETTERS) {
                refused("price(" + letter + ", " + n + ")", post -> post.price(letter, n), UNKNOWN);
            }
        }
        for (int n : new int[] {Integer.MIN_VALUE, -1, 10, Integer.MAX_VALUE}) {
            refused("price(0, " + n + "), SENT", post -> post.price(0, n), OUTSIDE);
            refused("price(4, " + n + ")", post -> post.price(4, n), OUTSIDE);
        }
        refused("price(0, 0)", post -> post.price(0, 0), STATE);
        refused("price(3, 9)", post -> post.price(3, 9), STATE);
        refused("price(4, 0)", post -> post.price(4, 0), 8 - 3);
        refused("price(1, 9)", post -> post.price(1, 9), 3 * (3 + 7) - 3);
    }

    private static void promise13UnknownState() {
        check.sentence(13, "UNKNOWN; STATE: it was SENT.");
        for (int letter : NO_LETTERS) {
            refused("cheapest(" + letter + ")", post -> post.cheapest(letter), UNKNOWN);
        }
        refused("cheapest(0)", post -> post.cheapest(0), STATE);
        refused("cheapest(3)", post -> post.cheapest(3), STATE);
        // 6 today, as in four days; 5 today, (12 - 3) / 2 in four days
        refused("cheapest(1)", post -> post.cheapest(1), 0);
        refused("cheapest(4)", post -> post.cheapest(4), 4);
    }

    private static void promise14OutsideStateNone() {
        check.sentence(14, "NONE. OUTSIDE: letters (bits of LETTERS that there are); STATE: one of them was SENT.");
        for (boolean row : new boolean[] {false, true}) {
            for (int letters : new int[] {Integer.MIN_VALUE, -1, 32, 33, Integer.MAX_VALUE}) {
                refused("plan(" + letters + ", " + row + ")", post -> post.plan(letters, row), OUTSIDE);
            }
            for (int letters : new int[] {1, 8, 9, 31}) {
                refused("plan(" + letters + ", " + row + ")", post -> post.plan(letters, row), STATE);
            }
        }
        // the thanks today, where there is room for one, the two others tomorrow
        refused("plan(22, false)", post -> post.plan(22, false), 5 + 6);
        refused("plan(22, true)", post -> post.plan(22, true), 110);
        check.changesNothing("plan(95), no room", RefusalsTest::crowded, post -> post.plan(64 + 31, false), OUTSIDE);
        check.changesNothing("plan(63), no room", RefusalsTest::crowded, post -> post.plan(63, false), STATE);
        check.changesNothing("plan(31), five without room", RefusalsTest::crowded, post -> post.plan(31, false), NONE);
        Supplier<WaitedPost> five = () -> Check.posted("P91L50L60L70L80L90");
        check.changesNothing("plan(31), nothing done", five, post -> post.plan(31, true), NONE);
        check.changesNothing("plan(15), four without room", RefusalsTest::crowded, post -> post.plan(15, true), NONE);
        // love on the pardon, thanks ahead of it, the widow's on the last DAY
        check.changesNothing("plan(28)", RefusalsTest::crowded, post -> post.plan(28, true), 132);
    }

    private static void promise15None() {
        check.sentence(15, "ORDER, as figures; NONE.");
        check.changesNothing("order() of a ring", RefusalsTest::ring, WaitedPost::order, NONE);
        check.changesNothing("order() of nothing left", RefusalsTest::allSent, WaitedPost::order, NONE);
        check.changesNothing("order() of no LETTERS", WaitedPost::new, WaitedPost::order, NONE);
        refused("order()", WaitedPost::order, 235);
    }

    private static final int[][] OUTSIDE_ROWS = {{0, 0}, {-1, 0}, {7, 0}, {1, -1}, {1, 10}, {6, -1}, {6, 1000000}, {0, -1},
        {7, 10000000}, {Integer.MIN_VALUE, 0}, {Integer.MAX_VALUE, 0}, {6, Integer.MIN_VALUE}, {6, Integer.MAX_VALUE}};

    private static void promise16Outside() {
        check.sentence(16, "OUTSIDE: n, row (0 or more, n figures at most).");
        for (int[] told : OUTSIDE_ROWS) {
            refused("judge(" + told[0] + ", " + told[1] + ")", post -> post.judge(told[0], told[1]), OUTSIDE);
        }
        refused("judge(1, 9)", post -> post.judge(1, 9), NONE);
        refused("judge(6, 999999)", post -> post.judge(6, 999999), NONE);
        refused("judge(2, 23)", post -> post.judge(2, 23), 1);
        refused("judge(1, 1)", post -> post.judge(1, 1), 0);
    }

    private static void promise17Outside() {
        check.sentence(17, "OUTSIDE: n, row.");
        for (int[] told : OUTSIDE_ROWS) {
            refused("cost(" + told[0] + ", " + told[1] + ")", post -> post.cost(told[0], told[1]), OUTSIDE);
        }
        refused("cost(1, 0)", post -> post.cost(1, 0), 0);
        refused("cost(1, 9)", post -> post.cost(1, 9), 0);
        refused("cost(6, 0)", post -> post.cost(6, 0), 0);
        refused("cost(6, 999999)", post -> post.cost(6, 999999), 0);
        refused("cost(1, 2)", post -> post.cost(1, 2), 6);
        refused("cost(6, 200005)", post -> post.cost(6, 200005), 6 + (12 - 3) / 2);
    }

    private static void promise18UnknownOutsideState() {
        check.sentence(18, "UNKNOWN; OUTSIDE: p; STATE: it was SENT.");
        for (int p : new int[] {-1, 0, 60, 61}) {
            for (int letter : NO_LETTERS) {
                refused("waits(" + letter + ", " + p + ")", post -> post.waits(letter, p), UNKNOWN);
            }
        }
        for (int p : new int[] {Integer.MIN_VALUE, -1, 61, Integer.MAX_VALUE}) {
            refused("waits(0, " + p + "), SENT", post -> post.waits(0, p), OUTSIDE);
            refused("waits(4, " + p + ")", post -> post.waits(4, p), OUTSIDE);
        }
        refused("waits(0, 0)", post -> post.waits(0, 0), STATE);
        refused("waits(3, 60)", post -> post.waits(3, 60), STATE);
        refused("waits(1, 6)", post -> post.waits(1, 6), 1 << 3);
        refused("waits(4, 5)", post -> post.waits(4, 5), 1 << 8);
    }

    private static void promise19UnknownOutsideState() {
        check.sentence(19, "UNKNOWN; OUTSIDE: p, what; STATE: it was SENT.");
        for (int letter : NO_LETTERS) {
            refused("who(" + letter + ", 60, 2)", post -> post.who(letter, 60, 2), UNKNOWN);
        }
        int[][] outside = {{-1, 0}, {61, 0}, {0, -1}, {0, 3}, {60, -1}, {60, 3}, {-1, -1}, {61, 3},
            {Integer.MIN_VALUE, 0}, {Integer.MAX_VALUE, 0}, {0, Integer.MIN_VALUE}, {0, Integer.MAX_VALUE}};
        for (int[] told : outside) {
            String rest = ", " + told[0] + ", " + told[1] + ")";
            for (int letter : NO_LETTERS) {
                refused("who(" + letter + rest, post -> post.who(letter, told[0], told[1]), UNKNOWN);
            }
            refused("who(0" + rest + ", SENT", post -> post.who(0, told[0], told[1]), OUTSIDE);
            refused("who(1" + rest, post -> post.who(1, told[0], told[1]), OUTSIDE);
        }
        refused("who(0, 0, 0)", post -> post.who(0, 0, 0), STATE);
        refused("who(3, 60, 2)", post -> post.who(3, 60, 2), STATE);
        refused("who(1, 9, 0)", post -> post.who(1, 9, 0), 1);
        refused("who(1, 6, 1)", post -> post.who(1, 6, 1), 1);
        refused("who(1, 9, 2)", post -> post.who(1, 9, 2), 1);
        refused("who(1, 60, 2)", post -> post.who(1, 60, 2), NONE);
    }

    private static void promise20Unknown() {
        check.sentence(20, "UNKNOWN.");
        for (boolean upper : new boolean[] {false, true}) {
            for (int letter : NO_LETTERS) {
                refused("share(" + letter + ", " + upper + ")", post -> post.share(letter, upper), UNKNOWN);
            }
            refused("share(0, " + upper + "), SENT", post -> post.share(0, upper), upper ? 0 : 1);
            refused("share(1, " + upper + ")", post -> post.share(1, upper), upper ? 6 : 1);
        }
    }

    private static void promise21UnknownOutsideState() {
        check.sentence(21, "UNKNOWN: both; OUTSIDE: both are one, what; STATE: one was SENT.");
        int[][] unknown = {{-1, 0}, {0, -1}, {5, 0}, {0, 5}, {1, 5}, {5, 1}, {-1, -1}, {5, 5}, {-1, 5}, {32, 1}, {1, 35}};
        for (int[] pair : unknown) {
            for (int what : new int[] {-1, 0, 1, 2}) {
                String call = "rests(" + pair[0] + ", " + pair[1] + ", " + what + ")";
                refused(call, post -> post.rests(pair[0], pair[1], what), UNKNOWN);
            }
        }
        int[][] outside = {{0, 0, 0}, {3, 3, 1}, {1, 1, 0}, {4, 4, 1}, {1, 2, -1}, {1, 2, 2}, {0, 1, -1}, {1, 0, 2},
            {0, 3, 2}, {1, 1, 2}, {1, 2, Integer.MIN_VALUE}, {1, 2, Integer.MAX_VALUE}};
        for (int[] told : outside) {
            String call = "rests(" + told[0] + ", " + told[1] + ", " + told[2] + ")";
            refused(call, post -> post.rests(told[0], told[1], told[2]), OUTSIDE);
        }
        int[][] sent = {{0, 1}, {1, 0}, {0, 3}, {3, 4}, {4, 3}};
        for (int[] pair : sent) {
            refused("rests(" + pair[0] + ", " + pair[1] + ", 0)", post -> post.rests(pair[0], pair[1], 0), STATE);
            refused("rests(" + pair[0] + ", " + pair[1] + ", 1)", post -> post.rests(pair[0], pair[1], 1), STATE);
        }
        // the apology on one of the three DAYS on which it pays 6, the widow's on another one of the four
        refused("rests(1, 2, 0)", post -> post.rests(1, 2, 0), 9);
        refused("rests(1, 2, 1)", post -> post.rests(1, 2, 1), 1);
    }

    private static void promise22UnknownOutsideState() {
        check.sentence(22, "UNKNOWN; OUTSIDE: p, x; STATE: it was SENT.");
        for (int letter : NO_LETTERS) {
            refused("lost(" + letter + ", 60, 10, true)", post -> post.lost(letter, 60, 10, true), UNKNOWN);
        }
        int[][] outside = {{-1, 0}, {61, 0}, {0, -1}, {0, 11}, {60, -1}, {60, 11}, {-1, 11}, {61, -1},
            {Integer.MIN_VALUE, 0}, {Integer.MAX_VALUE, 0}, {0, Integer.MIN_VALUE}, {0, Integer.MAX_VALUE}};
        for (int[] told : outside) {
            for (boolean upper : new boolean[] {false, true}) {
                String rest = ", " + told[0] + ", " + told[1] + ", " + upper + ")";
                for (int letter : NO_LETTERS) {
                    refused("lost(" + letter + rest, post -> post.lost(letter, told[0], told[1], upper), UNKNOWN);
                }
                refused("lost(0" + rest + ", SENT", post -> post.lost(0, told[0], told[1], upper), OUTSIDE);
                refused("lost(1" + rest, post -> post.lost(1, told[0], told[1], upper), OUTSIDE);
            }
        }
        refused("lost(0, 0, 0, true)", post -> post.lost(0, 0, 0, true), STATE);
        refused("lost(3, 60, 10, false)", post -> post.lost(3, 60, 10, false), STATE);
        refused("lost(1, 6, 5, true)", post -> post.lost(1, 6, 5, true), 1);
        refused("lost(1, 6, 5, false)", post -> post.lost(1, 6, 5, false), 2);
    }

    private static void promise24Outside() {
        check.sentence(24, "OUTSIDE: m.");
        for (int m : new int[] {Integer.MIN_VALUE, -1, 0, 31, 32, Integer.MAX_VALUE}) {
            refused("years(" + m + ")", post -> post.years(m), OUTSIDE);
        }
        check.due("years(1)", busy().years(1) >= 0);
        check.due("years(30)", busy().years(30) >= 0);
    }

    private static void promise25Unknown() {
        check.sentence(25, "UNKNOWN.");
        for (int slot : new int[] {Integer.MIN_VALUE, -1, 2, 32, 33, Integer.MAX_VALUE}) {
            refused("keep(" + slot + ")", post -> post.keep(slot), UNKNOWN);
        }
        check.due("keep(0)", busy().keep(0), 1);
        check.due("keep(1)", busy().keep(1), 1);
    }

    private static void promise26UnknownState() {
        check.sentence(26, "UNKNOWN; STATE: none were kept.");
        for (int slot : new int[] {Integer.MIN_VALUE, -1, 2, 32, 33, Integer.MAX_VALUE}) {
            refused("again(" + slot + ")", post -> post.again(slot), UNKNOWN);
            check.due("again(" + slot + ") with nothing kept", new WaitedPost().again(slot), UNKNOWN);
        }
        check.changesNothing("again(0), none were kept", RefusalsTest::busy, post -> post.again(0), STATE);
        check.due("again(1)", busy().again(1), 1);
        Supplier<WaitedPost> anew = () -> {
            WaitedPost post = busy();
            post.keep(0);
            post.post();
            post.day();
            return post;
        };
        check.changesNothing("again(0) behind post()", anew, post -> post.again(0), STATE);
        check.changesNothing("again(1) behind post()", anew, post -> post.again(1), STATE);
    }

    private static void promise27Outside() {
        check.sentence(27, "OUTSIDE.");
        for (int what : new int[] {Integer.MIN_VALUE, -1, 10, Integer.MAX_VALUE}) {
            refused("count(" + what + ")", post -> post.count(what), OUTSIDE);
        }
        refused("count(0)", post -> post.count(0), TEXT.length());
        refused("count(1)", post -> post.count(1), 5);
        refused("count(8)", post -> post.count(8), 6 + 0 + 5);
        refused("count(9)", post -> post.count(9), 5);
    }

    private static void refusedAct(String call, ToLongFunction<WaitedPost> asked, long want) {
        check.changesNothing(call + " behind 14 ACTS", RefusalsTest::longRow, asked, want);
    }

    private static void promise11RefusedActs() {
        check.sentence(11, "What is refused changes nothing.");
        check.due("count(9)", longRow().count(9), 14);
        refusedAct("send(5)", post -> post.send(5), UNKNOWN);
        refusedAct("send(0)", post -> post.send(0), STATE);
        refusedAct("send(1)", post -> post.send(1), FULL);
        refusedAct("tear(-1)", post -> post.tear(-1), UNKNOWN);
        refusedAct("tear(4)", post -> post.tear(4), STATE);
        refusedAct("tear(1)", post -> post.tear(1), STATE);
        refusedAct("card(5)", post -> post.card(5), UNKNOWN);
        refusedAct("card(3)", post -> post.card(3), STATE);
        refusedAct("card(1)", post -> post.card(1), STATE);
        refusedAct("again(0)", post -> post.again(0), STATE);
        check.due("an ACT that is not refused forgets the first one", !Later.tells(RefusalsTest::longRow).equals(
            Later.tells(Later.behind(RefusalsTest::longRow, post -> post.day() + post.undo()))));
    }

    private static void promise2TextAlone() {
        check.sentence(2, "A letter (0 to 255) comes behind THE TEXT");
        for (int letter : new int[] {0, 'E', 'L', 255}) {
            check.changesNothing("write(" + letter + "), THE TEXT told anew", RefusalsTest::full, post -> {
                int length = post.write(letter);
                Check.tell(post, TEXT);
                return length;
            }, TEXT.length() + 1);
        }
    }

    private static void promise3TextAlone() {
        check.sentence(3, "THE TEXT is empty");
        for (Supplier<WaitedPost> made : List.<Supplier<WaitedPost>>of(RefusalsTest::busy, RefusalsTest::full)) {
            check.changesNothing("wipe(), THE TEXT told anew", made, post -> {
                int length = post.wipe();
                Check.tell(post, TEXT);
                return length;
            }, TEXT.length());
        }
    }

    private static void promise23SeedAlone() {
        check.sentence(23, "THE SEED is v");
        for (long v : new long[] {0, 1, -1, Long.MIN_VALUE, Long.MAX_VALUE}) {
            check.changesNothing("seed(" + v + "), put back", RefusalsTest::full, post -> {
                long was = post.seed(v);
                post.seed(was);
                return was;
            }, -9);
        }
    }

    private static void promise23SeedStays() {
        check.sentence(23, "what it was");
        WaitedPost post = busy();
        post.write('L');
        check.due("behind write()", post.seed(1), 7);
        Check.tell(post, TEXT);
        check.due("behind wipe()", post.seed(2), 1);
        post.send(4);
        check.due("behind send()", post.seed(3), 2);
        post.day();
        check.due("behind day()", post.seed(4), 3);
        post.tear(1);
        check.due("behind tear()", post.seed(5), 4);
        post.card(2);
        check.due("behind card()", post.seed(6), 5);
        post.undo();
        check.due("behind undo()", post.seed(7), 6);
        post.keep(0);
        check.due("behind keep()", post.seed(8), 7);
        post.again(0);
        check.due("behind again()", post.seed(9), 8);
        post.post();
        check.due("behind post()", post.seed(10), 9);
    }

    // ---- what the terms say of all calls

    private interface OfOne {
        long ask(WaitedPost post, int number);
    }

    private static void noSuchLetter(int promise, String call, OfOne asked) {
        check.sentence(promise, "UNKNOWN (there is no such LETTER, SLOT)");
        for (int many = 0; many <= 6; many++) {
            String text = "P92" + "L50".repeat(many);
            for (int letter : new int[] {Integer.MIN_VALUE, -1, many, 7, 31, 32, 33, 64, Integer.MAX_VALUE}) {
                check.due(call + " of " + letter + ", " + many, asked.ask(Check.posted(text), letter), UNKNOWN);
            }
            for (int letter = 0; letter < many; letter++) {
                check.due(call + " of " + letter + ", " + many, asked.ask(Check.posted(text), letter) >= 0);
            }
        }
    }

    private static void noSuchLetter() {
        noSuchLetter(6, "letter()", (post, letter) -> post.letter(letter, 0));
        noSuchLetter(7, "send()", WaitedPost::send);
        noSuchLetter(9, "tear()", WaitedPost::tear);
        noSuchLetter(10, "card()", WaitedPost::card);
        noSuchLetter(12, "price()", (post, letter) -> post.price(letter, 0));
        noSuchLetter(13, "cheapest()", WaitedPost::cheapest);
        noSuchLetter(18, "waits()", (post, letter) -> post.waits(letter, 0));
        noSuchLetter(19, "who()", (post, letter) -> post.who(letter, 0, 0));
        noSuchLetter(20, "share()", (post, letter) -> post.share(letter, true));
        noSuchLetter(22, "lost()", (post, letter) -> post.lost(letter, 0, 0, true));
        check.sentence(21, "UNKNOWN: both");
        for (int letter : new int[] {Integer.MIN_VALUE, -1, 2, 31, 32, 33, Integer.MAX_VALUE}) {
            check.due("rests(0, " + letter + ", 0)", Check.posted("P92L50L50").rests(0, letter, 0), UNKNOWN);
            check.due("rests(" + letter + ", 1, 0)", Check.posted("P92L50L50").rests(letter, 1, 0), UNKNOWN);
        }
        check.due("rests(0, 1, 0)", Check.posted("P92L50L50").rests(0, 1, 0), 2);
    }

    private static void noSuchSlot() {
        check.sentence(26, "UNKNOWN (there is no such LETTER, SLOT)");
        for (int slot = -1; slot <= 2; slot++) {
            WaitedPost post = busy();
            boolean is = slot == 0 || slot == 1;
            check.due("keep(" + slot + ")", post.keep(slot), is ? 1 : UNKNOWN);
            check.due("again(" + slot + ")", post.again(slot), is ? 1 : UNKNOWN);
        }
    }

    private static void numbersOfTheFace() {
        check.sentence(1, "NONE is -9.");
        check.due("UNKNOWN", WaitedPost.UNKNOWN, -1);
        check.due("OUTSIDE", WaitedPost.OUTSIDE, -2);
        check.due("STATE", WaitedPost.STATE, -3);
        check.due("FULL", WaitedPost.FULL, -4);
        check.due("NONE", WaitedPost.NONE, -9);
        check.due("order() of none", new WaitedPost().order(), -9);
    }

    private static void fractionsLikewise() {
        check.sentence(22, "refusals of them are told likewise");
        int[][] calls = {{-1, 0, 0, UNKNOWN}, {5, 61, 11, UNKNOWN}, {0, 61, 0, OUTSIDE}, {1, 0, 11, OUTSIDE},
            {0, 0, 0, STATE}};
        for (int[] call : calls) {
            check.fraction("lost of " + call[0], busy().lost(call[0], call[1], call[2], true),
                busy().lost(call[0], call[1], call[2], false), call[3], call[3]);
        }
        check.sentence(20, "refusals of them are told likewise");
        check.fraction("share(-1)", busy().share(-1, true), busy().share(-1, false), UNKNOWN, UNKNOWN);
        check.fraction("share(5)", busy().share(5, true), busy().share(5, false), UNKNOWN, UNKNOWN);
    }

    private static void asks(int promise, String call, ToLongFunction<WaitedPost> asked) {
        check.sentence(promise, "In what follows nothing is changed.");
        for (Supplier<WaitedPost> made : List.<Supplier<WaitedPost>>of(RefusalsTest::busy, RefusalsTest::full,
            RefusalsTest::goneOn, RefusalsTest::longRow, RefusalsTest::ring, RefusalsTest::allSent, RefusalsTest::crowded,
            RefusalsTest::written, WaitedPost::new)) {
            check.changesNothing(call, made, asked, asked.applyAsLong(made.get()));
        }
    }

    private static void nothingIsChangedByAsking() {
        asks(4, "fault()", WaitedPost::fault);
        asks(6, "letter(1, 6)", post -> post.letter(1, 6));
        asks(12, "price(1, 9)", post -> post.price(1, 9));
        asks(13, "cheapest(1)", post -> post.cheapest(1));
        asks(14, "plan(22, true)", post -> post.plan(22, true));
        asks(15, "order()", WaitedPost::order);
        asks(16, "judge(6, 205003)", post -> post.judge(6, 205003));
        asks(17, "cost(6, 205003)", post -> post.cost(6, 205003));
        asks(18, "waits(1, 6)", post -> post.waits(1, 6));
        asks(19, "who(1, 6, 1)", post -> post.who(1, 6, 1));
        asks(20, "share(1, true)", post -> post.share(1, true));
        asks(21, "rests(1, 2, 1)", post -> post.rests(1, 2, 1));
        asks(22, "lost(1, 6, 5, true)", post -> post.lost(1, 6, 5, true));
        asks(27, "count(8)", post -> post.count(8));
    }

    private static void changes(String call, ToLongFunction<WaitedPost> asked) {
        Supplier<WaitedPost> made = RefusalsTest::busy;
        check.due(call + " is told later", !Later.tells(made).equals(Later.tells(Later.behind(made, asked))));
    }

    /** Were Later blind for something, a refused call could change it unseen. */
    private static void laterTellsWhatIsDone() {
        check.promise("what is not refused");
        changes("write('L')", post -> post.write('L'));
        changes("wipe()", WaitedPost::wipe);
        changes("post()", WaitedPost::post);
        changes("send(1)", post -> post.send(1));
        changes("send(2)", post -> post.send(2));
        changes("day()", WaitedPost::day);
        changes("tear(1)", post -> post.tear(1));
        changes("card(2)", post -> post.card(2));
        changes("undo()", WaitedPost::undo);
        changes("seed(8)", post -> post.seed(8));
        changes("years(1)", post -> post.years(1));
        changes("keep(0)", post -> post.keep(0));
        changes("keep(1)", post -> post.keep(1));
        changes("again(1)", post -> post.again(1));
    }
}
