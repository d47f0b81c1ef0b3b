/** Each boundary that the document names of the price now and of the acts: promises 7 to 11. */
public final class ActEdgesTest {
    private static final Check check = new Check();

    public static void main(String[] args) {
        promise7Rates();
        promise7TwiceIfTorn();
        promise7ThreeLess();
        promise7ExplainsAndWasSent();
        promise7HalfIsCut();
        promise7DayOfPardon();
        promise7FewerThanRoom();
        promise7PriceIsPaid();
        promise8OneDayMore();
        promise8ClockStands();
        promise8NotSent();
        promise8TheDay();
        promise8RoomAnew();
        promise9Waited();
        promise9Torn();
        promise9ClockStays();
        promise10ThreeDays();
        promise10ItsPrice();
        promise11EachIsInTheRow();
        promise11NothingElseIs();
        promise11HowManyAreLeft();
        promise11FourteenAtMost();
        promise11LastOneOfMore();
        check.end();
    }

    private static int priceOf(String text) {
        return Check.posted(text).letter(0, 6);
    }

    private static void promise7Rates() {
        check.sentence(7, "the DAYS it has WAITED times its RATE (THANKS 1, LOVE 2, APOLOGY 3, WIDOW 0)");
        int[] rates = {1, 2, 3, 0};
        for (int kind = 0; kind <= 3; kind++) {
            for (int waited : new int[] {0, 1, 8, 9}) {
                WaitedPost post = Check.posted("P91L" + waited + kind);
                check.due("send() of KIND " + kind + ", WAITED " + waited, post.send(0), waited * rates[kind]);
            }
            WaitedPost old = Check.posted("P91L9" + kind);
            Check.days(old, 100);
            check.due("send() of KIND " + kind + ", WAITED 99", old.send(0), 99 * rates[kind]);
        }
    }

    private static void promise7TwiceIfTorn() {
        check.sentence(7, "twice that, if it was TORN");
        int[] twice = {2, 4, 6, 0};
        for (int kind = 0; kind <= 3; kind++) {
            WaitedPost post = Check.posted("P91L9" + kind);
            post.tear(0);
            check.due("WAITED 0, KIND " + kind, post.letter(0, 6), 0);
            post.day();
            check.due("WAITED 1, KIND " + kind, post.letter(0, 6), twice[kind]);
            Check.days(post, 100);
            check.due("WAITED 99, KIND " + kind, post.send(0), 99 * twice[kind]);
        }
        // twice comes ahead of the 3 less: 2 * 2 - 3
        WaitedPost explained = Check.posted("P91L20L00E10");
        explained.tear(0);
        explained.send(1);
        Check.days(explained, 2);
        check.due("twice, then 3 less", explained.letter(0, 6), 1);
    }

    private static void promise7ThreeLess() {
        check.sentence(7, "3 less for each LETTER that EXPLAINS it and was SENT (0 at least)");
        int[] byOne = {0, 0, 0, 0, 1, 2, 3, 4, 5, 6};
        int[] byTwo = {0, 0, 0, 0, 0, 0, 0, 1, 2, 3};
        int[] byThree = {0, 0, 0, 0, 0, 0, 0, 0, 0, 0};
        for (int waited = 0; waited <= 9; waited++) {
            WaitedPost post = Check.posted("P93L" + waited + "0L00L00L00E10E20E30");
            check.due("by none, " + waited, post.letter(0, 6), waited);
            post.send(1);
            check.due("by one, " + waited, post.letter(0, 6), byOne[waited]);
            post.send(2);
            check.due("by two, " + waited, post.letter(0, 6), byTwo[waited]);
            post.send(3);
            check.due("by three, " + waited, post.letter(0, 6), byThree[waited]);
            post.day();
            check.due("by three, paid " + waited, post.send(0), Math.max(0, waited + 1 - 9));
        }
        WaitedPost five = Check.posted("P93L92L00L00L00L00L00E10E20E30E40E50");
        for (int letter = 1; letter <= 5; letter++) {
            if (letter == 4) {
                five.day();
            }
            five.send(letter);
        }
        check.due("by five", five.letter(0, 6), 30 - 15);
    }

    private static void promise7ExplainsAndWasSent() {
        check.sentence(7, "each LETTER that EXPLAINS it and was SENT");
        WaitedPost post = Check.posted("P93L92L00L00L00E10E02");
        check.due("it EXPLAINS, but was not SENT", post.letter(0, 6), 27);
        post.send(3);
        check.due("it was SENT, but EXPLAINS nothing", post.letter(0, 6), 27);
        post.send(2);
        check.due("it was SENT, but is explained itself", post.letter(0, 6), 27);
        post.send(1);
        check.due("it EXPLAINS and was SENT", post.letter(0, 6), 24);
    }

    private static void promise7HalfIsCut() {
        check.sentence(7, "on the DAY of PARDON half of that (cut).");
        int[] half = {0, 0, 1, 1, 2, 2, 3, 3, 4, 4};
        for (int waited = 0; waited <= 9; waited++) {
            check.due("half of " + waited, Check.posted("P01L" + waited + "0").send(0), half[waited]);
        }
        check.due("half of 27", priceOf("P01L92"), 13);
        // half of what is left when it is explained: (6 - 3) / 2, not 6 / 2 - 3; and (3 - 3) / 2
        WaitedPost six = Check.posted("P03L60L30L00E20E21");
        six.send(2);
        check.due("half behind the 3 less", six.letter(0, 6), 1);
        check.due("half of 0", six.letter(1, 6), 0);
    }

    private static void promise7DayOfPardon() {
        check.sentence(7, "on the DAY of PARDON");
        for (int pardon : new int[] {0, 1, 8, 9}) {
            WaitedPost post = Check.posted("P" + pardon + "1L00");
            for (int day = 0; day <= 11; day++) {
                check.due("PARDON " + pardon + " on DAY " + day, post.letter(0, 6), day == pardon ? day / 2 : day);
                post.day();
            }
        }
    }

    private static void promise7FewerThanRoom() {
        check.sentence(7, "if fewer than ROOM were SENT this DAY");
        for (int room = 1; room <= 3; room++) {
            WaitedPost post = Check.posted("P9" + room + "L10L10L10L10L10");
            for (int sent = 0; sent < room; sent++) {
                check.due("ROOM " + room + ", the next behind " + sent, post.send(sent), 1);
            }
            check.due("ROOM " + room + ", one too many", post.send(4), WaitedPost.FULL);
            check.due("how many", post.count(6), room);
        }
    }

    private static void promise7PriceIsPaid() {
        check.sentence(7, "its PRICE is paid");
        WaitedPost post = Check.posted("P92L00L50L41E12");
        check.due("send(0) of price 0", post.send(0), 0);
        check.due("paid", post.count(7), 0);
        check.due("send(1)", post.send(1), 5);
        check.due("paid", post.count(7), 5);
        check.due("refused", post.send(2), WaitedPost.FULL);
        check.due("paid by a refused call", post.count(7), 5);
        post.day();
        check.due("send(2)", post.send(2), 7);
        check.due("paid in all", post.count(7), 12);
        check.due("send(2) again", post.send(2), WaitedPost.STATE);
        check.due("paid but once", post.count(7), 12);
    }

    private static void promise8OneDayMore() {
        check.sentence(8, "each LETTER that is not SENT has WAITED one DAY more (99 at most)");
        WaitedPost post = Check.posted("P91L90L80L00");
        Check.days(post, 89);
        int[][] want = {{98, 97, 89}, {99, 98, 90}, {99, 99, 91}, {99, 99, 92}};
        for (int[] waited : want) {
            for (int letter = 0; letter < 3; letter++) {
                check.due("WAITED of " + letter + " on DAY " + post.count(4), post.letter(letter, 0), waited[letter]);
            }
            post.day();
        }
    }

    private static void promise8ClockStands() {
        check.sentence(8, "but one whose clock stands: that stands one DAY less.");
        WaitedPost post = Check.posted("P91L50L50");
        post.card(0);
        int[] clocks = {3, 2, 1, 0, 0, 0};
        int[] waited = {5, 5, 5, 5, 6, 7};
        for (int day = 0; day < clocks.length; day++) {
            check.due("clock on DAY " + day, post.letter(0, 5), clocks[day]);
            check.due("WAITED on DAY " + day, post.letter(0, 0), waited[day]);
            check.due("the other one on DAY " + day, post.letter(1, 0), 5 + day);
            post.day();
        }
    }

    private static void promise8NotSent() {
        check.sentence(8, "each LETTER that is not SENT");
        WaitedPost post = Check.posted("P92L50L60L70");
        post.card(1);
        post.day();
        post.send(0);
        post.send(1);
        post.day();
        check.due("SENT on the day before", post.letter(0, 0), 6);
        check.due("SENT while its clock stood", post.letter(1, 0), 6);
        check.due("its clock", post.letter(1, 5), 2);
        check.due("not SENT", post.letter(2, 0), 9);
    }

    private static void promise8TheDay() {
        check.sentence(8, "A DAY: THE DAY then.");
        WaitedPost post = new WaitedPost();
        for (int day = 1; day <= 200; day++) {
            check.due("day() without letters", post.day(), day);
        }
        check.due("count(4)", post.count(4), 200);
    }

    private static void promise8RoomAnew() {
        check.sentence(8, "SENT: a LETTER that is not SENT, if fewer than ROOM were SENT this DAY");
        WaitedPost post = Check.posted("P91L10L10L10");
        post.send(0);
        check.due("SENT this DAY", post.count(6), 1);
        check.due("send(1) on that DAY", post.send(1), WaitedPost.FULL);
        post.day();
        check.due("SENT this DAY, the next one", post.count(6), 0);
        check.due("send(1) on the next DAY", post.send(1), 2);
        check.due("send(2) on that DAY", post.send(2), WaitedPost.FULL);
    }

    private static void promise9Waited() {
        check.sentence(9, "TORN: how long it had WAITED.");
        WaitedPost post = Check.posted("P91L00L10L90");
        check.due("tear(0)", post.tear(0), 0);
        check.due("tear(1)", post.tear(1), 1);
        Check.days(post, 90);
        check.due("tear(2)", post.tear(2), 99);
        for (int letter = 0; letter < 3; letter++) {
            check.due("WAITED of " + letter, post.letter(letter, 0), letter < 2 ? 90 : 0);
        }
    }

    private static void promise9Torn() {
        check.sentence(9, "one that is not SENT has WAITED 0 DAYS, and is TORN (if it is not; its clock stays)");
        WaitedPost post = Check.posted("P91L50L60");
        check.due("not TORN ahead", post.letter(0, 4), 0);
        post.tear(0);
        check.due("TORN", post.letter(0, 4), 1);
        check.due("WAITED", post.letter(0, 0), 0);
        check.due("the other one is not", post.letter(1, 4), 0);
        check.due("tear(0) again", post.tear(0), WaitedPost.STATE);
        post.day();
        check.due("tear(0) on another DAY", post.tear(0), WaitedPost.STATE);
        check.due("it waits on", post.letter(0, 0), 1);
        post.send(1);
        check.due("tear(1), SENT", post.tear(1), WaitedPost.STATE);
        check.due("SENT, not TORN", post.letter(1, 4), 0);
    }

    private static void promise9ClockStays() {
        check.sentence(9, "its clock stays");
        WaitedPost post = Check.posted("P91L50L50");
        post.card(0);
        post.day();
        post.tear(0);
        post.tear(1);
        check.due("a clock that stands", post.letter(0, 5), 2);
        check.due("one that does not", post.letter(1, 5), 0);
        Check.days(post, 2);
        check.due("WAITED while it stood", post.letter(0, 0), 0);
        check.due("the other one", post.letter(1, 0), 2);
        post.day();
        check.due("WAITED behind it", post.letter(0, 0), 1);
    }

    private static void promise10ThreeDays() {
        check.sentence(10, "the clock of one that is not SENT stands for 3 DAYS (if it does not stand)");
        WaitedPost post = Check.posted("P91L50L60");
        check.due("card(0)", post.card(0), 5);
        check.due("card(0) with 3 left", post.card(0), WaitedPost.STATE);
        post.day();
        check.due("card(0) with 2 left", post.card(0), WaitedPost.STATE);
        post.day();
        check.due("card(0) with 1 left", post.card(0), WaitedPost.STATE);
        check.due("clock", post.letter(0, 5), 1);
        post.day();
        check.due("card(0) with none left", post.card(0), 5);
        check.due("clock anew", post.letter(0, 5), 3);
        post.send(1);
        check.due("card(1), SENT", post.card(1), WaitedPost.STATE);
        check.due("its clock", post.letter(1, 5), 0);
    }

    private static void promise10ItsPrice() {
        check.sentence(10, "CARD: its PRICE.");
        check.due("a widow's", Check.posted("P91L93").card(0), 0);
        check.due("WAITED 0", Check.posted("P91L02").card(0), 0);
        check.due("apology", Check.posted("P91L92").card(0), 27);
        check.due("half", Check.posted("P01L92").card(0), 13);
        WaitedPost post = Check.posted("P91L92L00E10");
        post.send(1);
        check.due("explained", post.card(0), 24);
        check.due("nothing is paid", post.count(7), 0);
    }

    private static void promise11EachIsInTheRow() {
        check.sentence(11, "ACTS (SENT, DAYS, TORN, CARDS) are a row");
        WaitedPost post = Check.posted("P92L51L62L43L70E01");
        String[] views = new String[5];
        views[0] = Check.view(post);
        check.due("send(0)", post.send(0), 10);
        views[1] = Check.view(post);
        check.due("day()", post.day(), 1);
        views[2] = Check.view(post);
        check.due("tear(1)", post.tear(1), 7);
        views[3] = Check.view(post);
        check.due("card(3)", post.card(3), 8);
        views[4] = Check.view(post);
        for (int left = 3; left >= 0; left--) {
            check.due("each is another one", !views[left].equals(views[left + 1]));
            check.due("undo()", post.undo(), left);
            check.due("as it was behind " + left, Check.view(post).equals(views[left]));
        }
    }

    private static void promise11NothingElseIs() {
        check.sentence(11, "ACTS (SENT, DAYS, TORN, CARDS)");
        WaitedPost post = Check.posted("P91L50L60");
        post.day();
        post.seed(3);
        post.years(30);
        post.keep(0);
        post.write('L');
        post.wipe();
        post.fault();
        post.plan(3, false);
        post.cost(2, 10);
        check.due("count(9)", post.count(9), 1);
        long seed = post.seed(4);
        check.due("undo()", post.undo(), 0);
        check.due("THE SEED is not undone", seed != 3 && post.seed(0) == 4);
        check.due("THE TEXT is not undone", post.count(0), 0);
        check.due("what was kept is not undone", post.again(0), 1);
    }

    private static void promise11HowManyAreLeft() {
        check.sentence(11, "The last ACT is undone: how many are left. STATE: there is none.");
        WaitedPost post = Check.posted("P91L50");
        check.due("of none", post.undo(), WaitedPost.STATE);
        post.day();
        check.due("of one", post.undo(), 0);
        check.due("of none again", post.undo(), WaitedPost.STATE);
        Check.days(post, 2);
        check.due("of two", post.undo(), 1);
        post.card(0);
        check.due("of two again", post.undo(), 1);
        check.due("of one again", post.undo(), 0);
        check.due("THE DAY", post.count(4), 0);
    }

    private static void promise11FourteenAtMost() {
        check.sentence(11, "a row (14 at most; of more the first one is forgotten)");
        for (int acts = 13; acts <= 16; acts++) {
            WaitedPost post = Check.posted("P91L50");
            Check.days(post, acts);
            int row = Math.min(14, acts);
            check.due("count(9) of " + acts, post.count(9), row);
            for (int left = row - 1; left >= 0; left--) {
                check.due("undo() of " + acts, post.undo(), left);
                check.due("THE DAY", post.count(4), acts - row + left);
            }
            check.due("undo() of " + acts + " once more", post.undo(), WaitedPost.STATE);
            check.due("what is forgotten stays done", post.count(4), acts - row);
        }
    }

    private static void promise11LastOneOfMore() {
        check.sentence(11, "the last one can be undone");
        WaitedPost post = Check.posted("P91L50L60");
        Check.days(post, 15);
        check.due("undo()", post.undo(), 13);
        post.send(1);
        check.due("14 again", post.count(9), 14);
        check.due("undo() of the last one", post.undo(), 13);
        check.due("not SENT", post.letter(1, 3), 0);
        check.due("not paid", post.count(7), 0);
        check.due("THE DAY", post.count(4), 14);
    }
}
