/** Each boundary that the document names of the text, the post and what is told of a letter: promises 1 to 6. */
public final class TextEdgesTest {
    private static final Check check = new Check();
    private static final int NONE = WaitedPost.NONE;
    private static final String SIX = "L00L00L00L00L00L00";

    public static void main(String[] args) {
        promise1AtFirst();
        promise1NoLetters();
        promise2Letters0To255();
        promise2Full();
        promise3Wipe();
        promise4Head();
        promise4Pardon();
        promise4Room();
        promise4Parts();
        promise4SixLetters();
        promise4Waited();
        promise4Kinds();
        promise4Another();
        promise4ToldAhead();
        promise4EachPairOnce();
        promise4FirstFault();
        promise4LengthSetAside();
        promise4OnlyNotAtItsEnd();
        promise5HowManyLetters();
        promise5NumberedAsTold();
        promise5TextStays();
        promise5RowOfActsIsEmpty();
        promise5KeptIsGone();
        promise5SeedStays();
        promise5MadeAnew();
        promise6What();
        promise6Explainers();
        promise6SentAndTorn();
        promise6Clock();
        promise6PriceOfSent();
        check.end();
    }

    private static void fault(String text, int want) {
        check.due("fault() of " + text, Check.told(text).fault(), want);
        check.due("post() of " + text, (Check.told(text).post() == WaitedPost.STATE) == (want != NONE));
    }

    private static void promise1AtFirst() {
        check.sentence(1, "At first PARDON is 0, ROOM 1, there are no LETTERS.");
        WaitedPost post = new WaitedPost();
        check.due("PARDON", post.count(2), 0);
        check.due("ROOM", post.count(3), 1);
        check.due("LETTERS", post.count(1), 0);
        check.due("letter(0, 0)", post.letter(0, 0), WaitedPost.UNKNOWN);
        check.due("send(0)", post.send(0), WaitedPost.UNKNOWN);
        check.due("plan(1, false)", post.plan(1, false), WaitedPost.OUTSIDE);
    }

    private static void promise1NoLetters() {
        check.sentence(1, "No letters.");
        check.due("count(0)", new WaitedPost().count(0), 0);
        check.due("wipe()", new WaitedPost().wipe(), 0);
        check.due("fault()", new WaitedPost().fault(), 0);
        check.due("write('P')", new WaitedPost().write('P'), 1);
    }

    private static void promise2Letters0To255() {
        check.sentence(2, "A letter (0 to 255) comes behind THE TEXT: how long it is.");
        WaitedPost post = new WaitedPost();
        check.due("write(-1)", post.write(-1), WaitedPost.OUTSIDE);
        check.due("write(0)", post.write(0), 1);
        check.due("write(1)", post.write(1), 2);
        check.due("write(254)", post.write(254), 3);
        check.due("write(255)", post.write(255), 4);
        check.due("write(256)", post.write(256), WaitedPost.OUTSIDE);
        check.due("write('P' + 256)", post.write('P' + 256), WaitedPost.OUTSIDE);
        check.due("count(0)", post.count(0), 4);
    }

    private static void promise2Full() {
        check.sentence(2, "THE TEXT is letters (48 at most).");
        WaitedPost post = Check.told("P01" + SIX + "E01E02E03E04E05E10E12E13E1");
        check.due("47 letters", post.count(0), 47);
        check.due("the 48th", post.write('4'), 48);
        check.due("the 49th", post.write('E'), WaitedPost.FULL);
        check.due("count(0)", post.count(0), 48);
        check.due("fault() of all 48", post.fault(), NONE);
        check.due("post() of all 48", post.post(), 6);
        check.due("the pair told by the 48th", post.letter(4, 2), 3);
    }

    private static void promise3Wipe() {
        check.sentence(3, "THE TEXT is empty: how long it was.");
        check.due("of none", Check.told("").wipe(), 0);
        check.due("of one", Check.told("P").wipe(), 1);
        WaitedPost full = Check.told("P".repeat(48));
        check.due("of 48", full.wipe(), 48);
        check.due("of none again", full.wipe(), 0);
        check.due("count(0)", full.count(0), 0);
        check.due("write('P')", full.write('P'), 1);
        check.due("fault()", full.fault(), 1);
    }

    private static void promise4Head() {
        check.sentence(4, "A POST is a TEXT: P, PARDON (0 to 9: that DAY), ROOM (1 to 3), then PARTS");
        fault("O01", 0);
        fault("P01", NONE);
        fault("Q01", 0);
        fault("p01", 0);
        fault("01", 0);
    }

    private static void promise4Pardon() {
        check.sentence(4, "PARDON (0 to 9: that DAY)");
        fault("P/1", 1);
        fault("P01", NONE);
        fault("P11", NONE);
        fault("P81", NONE);
        fault("P91", NONE);
        fault("P:1", 1);
        for (int pardon = 0; pardon <= 9; pardon += 9) {
            WaitedPost post = Check.posted("P" + pardon + "1L30");
            post.tear(0);
            for (int day = 0; day <= 10; day++) {
                check.due("pardon " + pardon + " on day " + day, post.letter(0, 6), day == pardon ? day : 2 * day);
                post.day();
            }
        }
    }

    private static void promise4Room() {
        check.sentence(4, "ROOM (1 to 3)");
        fault("P00", 2);
        fault("P01", NONE);
        fault("P02", NONE);
        fault("P03", NONE);
        fault("P04", 2);
    }

    private static void promise4Parts() {
        check.sentence(4, "then PARTS, none or more");
        fault("P01", NONE);
        fault("P01L00", NONE);
        fault("P01L00L00", NONE);
        fault("P01" + SIX + "E01E02E03E04E05E10E12E13E14", NONE);
        fault("P01K00", 3);
        fault("P01M00", 3);
        fault("P01l00", 3);
        fault("P01L00D", 6);
        fault("P01L00F", 6);
    }

    private static void promise4SixLetters() {
        check.sentence(4, "LETTERS (6 at most)");
        fault("P01" + SIX.substring(3), NONE);
        fault("P01" + SIX, NONE);
        fault("P01" + SIX + "L00", 21);
        fault("P01" + SIX + "E01L", 24);
    }

    private static void promise4Waited() {
        check.sentence(4, "a LETTER that has WAITED w (0 to 9) DAYS");
        fault("P01L/0", 4);
        fault("P01L00", NONE);
        fault("P01L10", NONE);
        fault("P01L80", NONE);
        fault("P01L90", NONE);
        fault("P01L:0", 4);
        check.due("WAITED 0", Check.posted("P01L00").letter(0, 0), 0);
        check.due("WAITED 9", Check.posted("P01L90").letter(0, 0), 9);
    }

    private static void promise4Kinds() {
        check.sentence(4, "of KIND k: 0 THANKS, 1 LOVE, 2 APOLOGY, 3 WIDOW");
        fault("P01L0/", 5);
        for (int kind = 0; kind <= 3; kind++) {
            fault("P01L0" + kind, NONE);
            check.due("KIND " + kind, Check.posted("P01L0" + kind).letter(0, 1), kind);
        }
        fault("P01L04", 5);
    }

    private static void promise4Another() {
        check.sentence(4, "LETTER i EXPLAINS another one j");
        fault("P01L00L00L00E10", NONE);
        fault("P01L00L00L00E11", 14);
        fault("P01L00L00L00E12", NONE);
        fault("P01L00E", 6);
        fault("P01L00L00E", 10);
    }

    private static void promise4ToldAhead() {
        check.sentence(4, "both told ahead");
        fault("P01L00L00E1", 11);
        fault("P01L00L00E10", NONE);
        fault("P01L00L00E2", 10);
        fault("P01L00L00E20", 10);
        fault("P01L00L00E01", NONE);
        fault("P01L00L00E02", 11);
        fault("P01L00L00E02L00", 11);
        fault("P01L00L00L00E02", NONE);
        fault("P01L00L00E/0", 10);
        fault("P01L00L00E1/", 11);
        fault("P01" + SIX + "E54", NONE);
        fault("P01" + SIX + "E6", 22);
        fault("P01" + SIX + "E56", 23);
        fault("P01E", 3);
    }

    private static void promise4EachPairOnce() {
        check.sentence(4, "each such pair once");
        fault("P01L00L00L00E01", NONE);
        fault("P01L00L00L00E01E01", 17);
        fault("P01L00L00L00E01E10", NONE);
        fault("P01L00L00L00E01E10E10", 20);
        // the LETTER has nothing left to explain, then none has
        fault("P01L00L00L00E01E02E0", 19);
        fault("P01L00L00L00E01E02E1", 20);
        fault("P01L00L00E01E", 13);
        fault("P01L00L00E10E", 13);
        fault("P01L00L00E10E1", 13);
        fault("P01L00L00E10E01", NONE);
        fault("P01L00L00E01E10", NONE);
        fault("P01L00L00E01E10E", 15);
        fault("P01L00L00E01E10L00E", 19);
    }

    private static void promise4FirstFault() {
        check.sentence(4, "FAULT: the place of the first letter by which THE TEXT can be no POST, whatever came behind it");
        fault("X", 0);
        fault("PX", 1);
        fault("P0X", 2);
        fault("P01X", 3);
        fault("P01LX", 4);
        fault("P01L0X", 5);
        fault("P01L00X", 6);
        fault("P01L00X99X", 6);
        fault("P01L04E00", 5);
        fault("P01L00L00E01X", 12);
    }

    private static void promise4LengthSetAside() {
        check.sentence(4, "(its length set aside)");
        String full = "P01" + SIX + "E01E02E03E04E05E10E12E13E14";
        fault(full.substring(0, 45), NONE);
        fault(full.substring(0, 46), 46);
        fault(full.substring(0, 47), 47);
        fault(full, NONE);
        fault(full.substring(0, 47) + "6", 47);
    }

    private static void promise4OnlyNotAtItsEnd() {
        check.sentence(4, "its length, if it is only not at its end");
        int[] want = {0, 1, 2, NONE, 4, 5, NONE, 7, 8, NONE, 10, 11, NONE};
        for (int length = 0; length < want.length; length++) {
            fault("P01L00L00E01".substring(0, length), want[length]);
        }
    }

    private static void promise5HowManyLetters() {
        check.sentence(5, "how many LETTERS");
        for (int many = 0; many <= 6; many++) {
            WaitedPost post = Check.told("P01" + SIX.substring(0, 3 * many));
            check.due("post() of " + many, post.post(), many);
            check.due("count(1)", post.count(1), many);
            check.due("the last one", post.letter(many - 1, 0), many == 0 ? WaitedPost.UNKNOWN : 0);
            check.due("one behind the last", post.letter(many, 0), WaitedPost.UNKNOWN);
        }
    }

    private static void promise5NumberedAsTold() {
        check.sentence(5, "LETTERS (6 at most) are numbered as they are told");
        WaitedPost post = Check.posted("P01L10L21E01L32L43L50E43L61");
        int[] waited = {1, 2, 3, 4, 5, 6};
        int[] kinds = {0, 1, 2, 3, 0, 1};
        for (int letter = 0; letter < 6; letter++) {
            check.due("WAITED of " + letter, post.letter(letter, 0), waited[letter]);
            check.due("KIND of " + letter, post.letter(letter, 1), kinds[letter]);
        }
        check.due("the first one EXPLAINS the second", post.letter(1, 2), 1);
        // read again without the sixth one, whose number no pair may tell then
        Check.tell(post, "P01L10L21L32L43L50E53");
        check.due("fault()", post.fault(), 19);
    }

    private static void promise5TextStays() {
        check.sentence(5, "THE TEXT (that stays as it is) is THE POST");
        WaitedPost post = Check.told("P01L10");
        post.post();
        check.due("count(0)", post.count(0), 6);
        check.due("fault()", post.fault(), NONE);
        check.due("write('L')", post.write('L'), 7);
        check.due("the post stays, too", post.count(1), 1);
        check.due("fault() then", post.fault(), 7);
        post.write('2');
        post.write('0');
        check.due("not ahead of post()", post.count(1), 1);
        check.due("post()", post.post(), 2);
    }

    private static void promise5RowOfActsIsEmpty() {
        check.sentence(5, "THE ROW of ACTS is empty");
        for (int acts : new int[] {0, 1, 13, 14, 15}) {
            WaitedPost post = Check.posted("P01L10");
            Check.days(post, acts);
            check.due("count(9) with " + acts, post.count(9), Math.min(14, acts));
            post.post();
            check.due("count(9) behind post()", post.count(9), 0);
            check.due("undo() behind post()", post.undo(), WaitedPost.STATE);
            post.day();
            check.due("one act then", post.count(9), 1);
        }
    }

    private static void promise5KeptIsGone() {
        check.sentence(5, "what was kept is gone");
        for (int slot = 0; slot <= 1; slot++) {
            WaitedPost post = Check.posted("P01L10");
            post.keep(slot);
            check.due("again() ahead of post()", post.again(slot), 0);
            post.post();
            check.due("again(0) behind post()", post.again(0), WaitedPost.STATE);
            check.due("again(1) behind post()", post.again(1), WaitedPost.STATE);
        }
    }

    private static void promise5SeedStays() {
        check.sentence(5, "THE SEED stays");
        for (long seed : new long[] {-1, 0, 1, Long.MIN_VALUE, Long.MAX_VALUE}) {
            WaitedPost post = Check.told("P01L10");
            post.seed(seed);
            post.post();
            check.due("seed behind post()", post.seed(0), seed);
        }
    }

    private static void promise5MadeAnew() {
        check.sentence(5, "THE DAY is 0, nothing was sent, paid, torn, no clock stands, when THE POST is made anew.");
        String text = "P92L51L32L43L70E01E12";
        WaitedPost post = Check.posted(text);
        post.send(0);
        post.day();
        post.send(1);
        post.tear(2);
        post.card(2);
        post.card(3);
        check.due("post()", post.post(), 4);
        check.due("THE DAY", post.count(4), 0);
        check.due("sent", post.count(5), 0);
        check.due("sent this day", post.count(6), 0);
        check.due("paid", post.count(7), 0);
        check.due("torn", post.letter(2, 4), 0);
        check.due("clock", post.letter(3, 5), 0);
        check.due("clock of the torn one", post.letter(2, 5), 0);
        check.due("WAITED as told", post.letter(3, 0), 7);
        check.due("as a new object", Later.tells(() -> Later.behind(() -> Check.posted(text), WaitedPost::post).get())
            .equals(Later.tells(() -> Check.posted(text))));
    }

    private static void promise6What() {
        check.sentence(6, "Of a LETTER how long it has WAITED (what = 0), KIND (1)");
        WaitedPost post = Check.posted("P91L52L90");
        check.due("letter(0, -1)", post.letter(0, -1), WaitedPost.OUTSIDE);
        int[] first = {5, 2, 0, 0, 0, 0, 15};
        int[] last = {9, 0, 0, 0, 0, 0, 9};
        for (int what = 0; what <= 6; what++) {
            check.due("letter(-1, " + what + ")", post.letter(-1, what), WaitedPost.UNKNOWN);
            check.due("letter(0, " + what + ")", post.letter(0, what), first[what]);
            check.due("letter(1, " + what + ")", post.letter(1, what), last[what]);
            check.due("letter(2, " + what + ")", post.letter(2, what), WaitedPost.UNKNOWN);
        }
        check.due("letter(0, 7)", post.letter(0, 7), WaitedPost.OUTSIDE);
    }

    private static void promise6Explainers() {
        check.sentence(6, "those that EXPLAIN it (2: bits)");
        WaitedPost post = Check.posted("P91" + SIX + "E10E20E30E40E50E05");
        check.due("all but itself", post.letter(0, 2), 62);
        check.due("none", post.letter(1, 2), 0);
        check.due("the first one alone", post.letter(5, 2), 1);
        post.send(1);
        check.due("the sent one, too", post.letter(0, 2), 62);
    }

    private static void promise6SentAndTorn() {
        check.sentence(6, "1 if it was SENT (3), 1 if it is TORN (4)");
        WaitedPost post = Check.posted("P92L50L50L50");
        post.send(0);
        post.tear(1);
        post.tear(2);
        post.send(2);
        int[] sent = {1, 0, 1};
        int[] torn = {0, 1, 1};
        for (int letter = 0; letter < 3; letter++) {
            check.due("SENT " + letter, post.letter(letter, 3), sent[letter]);
            check.due("TORN " + letter, post.letter(letter, 4), torn[letter]);
        }
    }

    private static void promise6Clock() {
        check.sentence(6, "for how many DAYS its clock stands (5)");
        WaitedPost post = Check.posted("P91L50");
        check.due("none", post.letter(0, 5), 0);
        post.card(0);
        for (int left = 3; left >= 0; left--) {
            check.due("left", post.letter(0, 5), left);
            post.day();
        }
        check.due("never less than 0", post.letter(0, 5), 0);
    }

    private static void promise6PriceOfSent() {
        check.sentence(6, "its PRICE now (6; NONE: it was SENT)");
        WaitedPost post = Check.posted("P92L53L51L50");
        check.due("a widow's", post.letter(0, 6), 0);
        check.due("love", post.letter(1, 6), 10);
        post.send(0);
        post.send(1);
        check.due("the widow's that was sent", post.letter(0, 6), NONE);
        check.due("love that was sent", post.letter(1, 6), NONE);
        check.due("one that was not", post.letter(2, 6), 5);
        post.undo();
        check.due("undone", post.letter(1, 6), 10);
    }
}
