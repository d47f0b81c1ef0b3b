/** Each boundary that the document names of what one costs when: promises 12 to 17. */
public final class PriceEdgesTest {
    private static final Check check = new Check();
    private static final int NONE = WaitedPost.NONE;
    private static final int OUTSIDE = WaitedPost.OUTSIDE;

    public static void main(String[] args) {
        promise12NDays();
        promise12NothingElse();
        promise12Pardon();
        promise12MostWaited();
        promise13Least();
        promise13OfLikeOnes();
        promise14FourDays();
        promise14ByNumber();
        promise14Room();
        promise14SentSoFar();
        promise14NoRoom();
        promise14Together();
        promise14OfLikeOnes();
        promise14RowAndHowMuch();
        promise14Bits();
        promise14OneWasSent();
        promise15First();
        promise15NotSent();
        promise15None();
        promise16HowManyThings();
        promise16Figures();
        promise16Row();
        promise16Place();
        promise17LeftOut();
        promise17Paid();
        check.end();
    }

    private static void plan(WaitedPost post, int letters, int howMuch, int row) {
        check.due("plan(" + letters + ", false)", post.plan(letters, false), howMuch);
        check.due("plan(" + letters + ", true)", post.plan(letters, true), row);
    }

    private static void promise12NDays() {
        check.sentence(12, "PRICE IN n DAYS (0 to 9)");
        WaitedPost post = Check.posted("P01L50");
        post.day();
        check.due("price(0, -1)", post.price(0, -1), OUTSIDE);
        for (int n = 0; n <= 9; n++) {
            check.due("price(0, " + n + ")", post.price(0, n), 6 + n);
        }
        check.due("price(0, 10)", post.price(0, 10), OUTSIDE);
    }

    private static void promise12NothingElse() {
        check.sentence(12, "if nothing else is done");
        WaitedPost post = Check.posted("P91L50L10E10");
        post.card(0);
        int[] three = {5, 5, 5, 5, 6, 7, 8, 9, 10};
        for (int n = 0; n < three.length; n++) {
            check.due("its clock stands, price(0, " + n + ")", post.price(0, n), three[n]);
        }
        check.due("on the pardon", post.price(0, 9), 11 / 2);
        Check.days(post, 2);
        int[] one = {5, 5, 6, 7, 8, 9, 10};
        for (int n = 0; n < one.length; n++) {
            check.due("its clock stands one DAY, price(0, " + n + ")", post.price(0, n), one[n]);
        }
        check.due("in 2 DAYS it is the same as 2 DAYS later", later(post, 2), post.price(0, 2));
    }

    private static int later(WaitedPost post, int days) {
        Check.days(post, days);
        int price = post.letter(0, 6);
        for (int i = 0; i < days; i++) {
            post.undo();
        }
        return price;
    }

    private static void promise12Pardon() {
        check.sentence(12, "on the DAY of PARDON half of that (cut)");
        WaitedPost nine = Check.posted("P91L02");
        check.due("the day before", nine.price(0, 8), 24);
        check.due("in nine days", nine.price(0, 9), 27 / 2);
        nine.day();
        check.due("in eight days", nine.price(0, 8), 27 / 2);
        check.due("the day behind", nine.price(0, 9), 30);
        WaitedPost now = Check.posted("P01L92");
        check.due("now", now.price(0, 0), 27 / 2);
        check.due("tomorrow", now.price(0, 1), 30);
    }

    private static void promise12MostWaited() {
        check.sentence(12, "has WAITED one DAY more (99 at most)");
        WaitedPost post = Check.posted("P01L90");
        Check.days(post, 81);
        check.due("in 8 days", post.price(0, 8), 98);
        check.due("in 9 days", post.price(0, 9), 99);
        post.day();
        check.due("in 8 days, a day later", post.price(0, 8), 99);
        check.due("in 9 days, a day later", post.price(0, 9), 99);
    }

    private static void promise13Least() {
        check.sentence(13, "the n (0 to 9) IN which its PRICE is least");
        check.due("today", Check.posted("P01L90").cheapest(0), 0);
        check.due("tomorrow", Check.posted("P11L90").cheapest(0), 1);
        // a clock that stands makes the half of the ninth day, (9 + 6) / 2, less than 9
        WaitedPost nine = Check.posted("P91L90");
        nine.card(0);
        check.due("in nine days", nine.cheapest(0), 9);
        nine.day();
        check.due("in eight days", nine.cheapest(0), 8);
        WaitedPost gone = Check.posted("P01L90");
        gone.day();
        check.due("the pardon is over", gone.cheapest(0), 0);
    }

    private static void promise13OfLikeOnes() {
        check.sentence(13, "of like ones the least");
        check.due("a widow's ten", Check.posted("P51L93").cheapest(0), 0);
        // 3 today, (3 + 4) / 2 in four days; 2 today, (2 + 3) / 2 in three; 4 today, (4 + 3) / 2 in three
        check.due("3 and 3", Check.posted("P41L30").cheapest(0), 0);
        check.due("2 and 2", Check.posted("P31L20").cheapest(0), 0);
        check.due("4 and 3", Check.posted("P31L40").cheapest(0), 3);
        // torn and explained twice: 0 for as long as 2 * WAITED is 6 at most
        WaitedPost post = Check.posted("P92L50L00L00E10E20");
        post.send(1);
        post.send(2);
        post.tear(0);
        check.due("0 on four days", post.cheapest(0), 0);
    }

    private static void promise14FourDays() {
        check.sentence(14, "each is SENT on one of 4 DAYS (IN 0 to 3 DAYS)");
        plan(Check.posted("P01L90"), 1, 4, 0);
        plan(Check.posted("P11L90"), 1, 5, 1);
        plan(Check.posted("P21L90"), 1, 5, 2);
        plan(Check.posted("P31L90"), 1, 6, 3);
        // (9 + 4) / 2 on the fifth day would be less
        plan(Check.posted("P41L90"), 1, 9, 0);
        check.due("in 4 days", Check.posted("P41L90").price(0, 4), 6);
    }

    private static void promise14ByNumber() {
        check.sentence(14, "on each DAY by number (one that is SENT ahead EXPLAINS those behind it on that DAY, too)");
        plan(Check.posted("P92L50L90E01"), 3, 5 + 6, 0);
        // by number the explained one comes first on that day: it goes a day later
        plan(Check.posted("P92L90L50E10"), 3, 5 + 7, 10);
        // 9 - 3 - 3 behind two that are ahead of it, 10 - 3 - 3 a day behind
        plan(Check.posted("P93L00L00L90E02E12"), 7, 3, 0);
        plan(Check.posted("P93L00L90L00E01E21"), 7, 4, 10);
    }

    private static void promise14Room() {
        check.sentence(14, "ROOM at most each DAY");
        for (int room = 1; room <= 3; room++) {
            WaitedPost post = Check.posted("P9" + room + "L10L10L10L10");
            int[] rows = {0, room == 1 ? 1 : 0, room == 1 ? 12 : room == 2 ? 1 : 0, room == 1 ? 123 : room == 2 ? 11 : 1};
            int[] howMuch = {1, room == 1 ? 3 : 2, room == 1 ? 6 : room == 2 ? 4 : 3, room == 1 ? 10 : room == 2 ? 6 : 5};
            for (int many = 1; many <= 4; many++) {
                plan(post, (1 << many) - 1, howMuch[many - 1], rows[many - 1]);
            }
        }
    }

    private static void promise14SentSoFar() {
        check.sentence(14, "(those SENT this DAY so far count on the first one)");
        for (int sent = 0; sent <= 3; sent++) {
            WaitedPost post = Check.posted("P93L10L10L10L10L10L10");
            for (int letter = 0; letter < sent; letter++) {
                post.send(letter);
            }
            int[] rows = {0, 1, 11, 111};
            plan(post, 56, 3 + sent, rows[sent]);
        }
        WaitedPost one = Check.posted("P91L10L10L10L10L10");
        one.send(0);
        plan(one, 2, 2, 1);
        one.day();
        plan(one, 2, 2, 0);
    }

    private static void promise14NoRoom() {
        check.sentence(14, "NONE: there is no room.");
        WaitedPost one = Check.posted("P91L10L10L10L10L10L10");
        plan(one, 7, 1 + 2 + 3, 12);
        plan(one, 15, 1 + 2 + 3 + 4, 123);
        plan(one, 31, NONE, NONE);
        plan(one, 63, NONE, NONE);
        one.send(5);
        plan(one, 3, 2 + 3, 12);
        plan(one, 7, 2 + 3 + 4, 123);
        plan(one, 15, NONE, NONE);
        plan(one, 0, 0, 0);
        one.day();
        plan(one, 15, 2 + 3 + 4 + 5, 123);
        // two a day have room for all six, even when this day is full
        WaitedPost two = Check.posted("P92L10L10L10L10L10L10");
        plan(two, 63, 1 + 1 + 2 + 2 + 3 + 3, 1122);
    }

    private static void promise14Together() {
        check.sentence(14, "by which they pay least together");
        // 4 + 10 today without room for both: 4 + 12, or 6 + 10; explained 4 + (12 - 3)
        plan(Check.posted("P91L21L51"), 3, 16, 1);
        plan(Check.posted("P91L21L51E01"), 3, 13, 1);
        plan(Check.posted("P91L21L51E10"), 3, 10 + 3, 10);
        // the one that waits is dearer by its own day, but by the 3 less both together are not
        plan(Check.posted("P91L90L52E01"), 3, 9 + 15, 1);
        plan(Check.posted("P91L51L50E10"), 3, 5 + 9, 10);
        // the one whose clock stands can wait
        WaitedPost post = Check.posted("P91L52L51");
        plan(post, 3, 15 + 12, 1);
        post.card(0);
        plan(post, 3, 15 + 10, 10);
    }

    private static void promise14OfLikeOnes() {
        check.sentence(14,
            "of like ones the first (told by LETTERS of the set in order, the DAY each; the least as a number)");
        plan(Check.posted("P91L50L50"), 3, 11, 1);
        plan(Check.posted("P91L53L50L51L53"), 15, 10 + 6, 2103);
        plan(Check.posted("P93L53L53L53L53L53L53"), 63, 0, 111);
        plan(Check.posted("P93L53L53L53"), 7, 0, 0);
        plan(Check.posted("P91L53L53L53"), 5, 0, 1);
        plan(Check.posted("P91L53L53L53"), 6, 0, 1);
        // 3 today, (3 + 3) / 2 in three days
        plan(Check.posted("P31L30"), 1, 3, 0);
    }

    private static void promise14RowAndHowMuch() {
        check.sentence(14, "PLAN: how much (row = false), the row (row = true); NONE.");
        WaitedPost post = Check.posted("P91L20L30L40");
        plan(post, 0, 0, 0);
        plan(post, 1, 2, 0);
        plan(post, 3, 6, 1);
        plan(post, 7, 12, 12);
    }

    private static void promise14Bits() {
        check.sentence(14, "OUTSIDE: letters (bits of LETTERS that there are)");
        for (int many = 0; many <= 6; many++) {
            WaitedPost post = Check.posted("P93" + "L03".repeat(many));
            int all = (1 << many) - 1;
            check.due("plan(-1), " + many, post.plan(-1, false), OUTSIDE);
            check.due("plan(0), " + many, post.plan(0, false), 0);
            check.due("plan(all), " + many, post.plan(all, false), 0);
            check.due("plan(all + 1), " + many, post.plan(all + 1, false), OUTSIDE);
            check.due("plan(all + 1, true), " + many, post.plan(all + 1, true), OUTSIDE);
        }
    }

    private static void promise14OneWasSent() {
        check.sentence(14, "STATE: one of them was SENT.");
        WaitedPost post = Check.posted("P91L50L50L50L50L50L50");
        check.due("none was", post.plan(4, false), 5);
        post.send(2);
        check.due("one ahead of it", post.plan(2, false), 6);
        check.due("just that one", post.plan(4, false), WaitedPost.STATE);
        check.due("one behind it", post.plan(8, false), 6);
        check.due("one of more", post.plan(12, true), WaitedPost.STATE);
        check.due("one of more than there is room for", post.plan(63, true), WaitedPost.STATE);
        check.due("no room for the others", post.plan(59, true), NONE);
        post.undo();
        check.due("undone", post.plan(4, false), 5);
    }

    private static void promise15First() {
        check.sentence(15, "the first (as figures, 1 more each, the least as a number)");
        check.due("one", Check.posted("P91L00").order(), 1);
        check.due("two", Check.posted("P91L00L00").order(), 12);
        check.due("two, the second one first", Check.posted("P91L00L00E10").order(), 21);
        check.due("six", Check.posted("P91L00L00L00L00L00L00").order(), 123456);
        check.due("six, a chain", Check.posted("P91L00L00L00L00L00L00E54E43E32E21E10").order(), 654321);
        // the first one waits for the fifth, the others come as soon as they can
        check.due("six, one of them late", Check.posted("P91L00L00L00L00L00L00E40").order(), 234516);
        check.due("not the longest way first", Check.posted("P91L00L00L00L00E10E32").order(), 2143);
    }

    private static void promise15NotSent() {
        check.sentence(15, "of all orders of all LETTERS that are not SENT in which each that EXPLAINS another of them");
        WaitedPost post = Check.posted("P91L00L00L00E10E21");
        check.due("none was SENT", post.order(), 321);
        post.send(1);
        check.due("the middle one was", post.order(), 13);
        post.undo();
        post.send(2);
        check.due("the first one was", post.order(), 21);
    }

    private static void promise15None() {
        check.sentence(15, "NONE: there is none (a ring), or nothing is left.");
        check.due("no ring", Check.posted("P91L00L00E01").order(), 12);
        check.due("a ring of two", Check.posted("P91L00L00E01E10").order(), NONE);
        String six = "P91L00L00L00L00L00L00E01E12E23E34E45";
        check.due("six, no ring", Check.posted(six).order(), 123456);
        check.due("a ring of six", Check.posted(six + "E50").order(), NONE);
        check.due("a ring of the last two", Check.posted("P91L00L00L00E12E21").order(), NONE);
        WaitedPost ring = Check.posted("P91L00L00E01E10");
        ring.send(1);
        check.due("one is left", ring.order(), 1);
        ring.day();
        ring.send(0);
        check.due("nothing is left", ring.order(), NONE);
        ring.undo();
        check.due("one is left again", ring.order(), 1);
        check.due("no LETTERS", Check.posted("P91").order(), NONE);
    }

    private static void promise16HowManyThings() {
        check.sentence(16, "n things (1 to 6)");
        WaitedPost post = Check.posted("P91L00");
        check.due("judge(-1, 0)", post.judge(-1, 0), OUTSIDE);
        check.due("judge(0, 0)", post.judge(0, 0), OUTSIDE);
        for (int n = 1; n <= 6; n++) {
            check.due("judge(" + n + ", 0)", post.judge(n, 0), NONE);
            check.due("judge(" + n + ", 2)", post.judge(n, 2), n - 1);
        }
        check.due("judge(7, 0)", post.judge(7, 0), OUTSIDE);
        check.due("judge(7, 1000000)", post.judge(7, 1000000), OUTSIDE);
    }

    private static void promise16Figures() {
        check.sentence(16, "told as figures (a LETTER and 1: SENT; 0: A DAY; 9: nothing)");
        for (int many = 0; many <= 6; many++) {
            WaitedPost post = Check.posted("P91" + "L00".repeat(many));
            for (int figure = 0; figure <= 9; figure++) {
                boolean can = figure <= many || figure == 9;
                check.due("judge(1, " + figure + ") of " + many, post.judge(1, figure), can ? NONE : 0);
            }
        }
        WaitedPost two = Check.posted("P91L50L60");
        check.due("two on one DAY", two.judge(2, 12), 1);
        check.due("nothing between", two.judge(3, 192), 2);
        check.due("A DAY between", two.judge(3, 102), NONE);
        check.due("A DAY ahead", two.judge(2, 1), NONE);
        check.due("one twice", two.judge(3, 101), 2);
    }

    private static void promise16Row() {
        check.sentence(16, "row (0 or more, n figures at most)");
        WaitedPost post = Check.posted("P91L00");
        int ten = 10;
        for (int n = 1; n <= 6; n++) {
            check.due("judge(" + n + ", -1)", post.judge(n, -1), OUTSIDE);
            check.due("judge(" + n + ", 0)", post.judge(n, 0), NONE);
            check.due("judge(" + n + ", " + (ten - 1) + ")", post.judge(n, ten - 1), NONE);
            check.due("judge(" + n + ", " + ten + ")", post.judge(n, ten), OUTSIDE);
            ten *= 10;
        }
        check.due("judge(6, most)", post.judge(6, Integer.MAX_VALUE), OUTSIDE);
        check.due("judge(6, least)", post.judge(6, Integer.MIN_VALUE), OUTSIDE);
    }

    private static void promise16Place() {
        check.sentence(16, "the place of the first that can not be; NONE: none.");
        WaitedPost post = Check.posted("P91L50L60");
        check.due("none", post.judge(6, 102099), NONE);
        check.due("the first", post.judge(6, 302099), 0);
        check.due("the second", post.judge(6, 132099), 1);
        check.due("the last", post.judge(6, 102098), 5);
        check.due("the first of two", post.judge(6, 182098), 1);
        check.due("the first of all", post.judge(6, 888888), 0);
        post.send(0);
        check.due("full, as one was SENT", post.judge(2, 2), NONE);
        check.due("full this DAY", post.judge(2, 20), 0);
        check.due("it was SENT", post.judge(2, 1), 1);
    }

    private static void promise17LeftOut() {
        check.sentence(17, "what is paid by what can be (what can not be is left out)");
        WaitedPost post = Check.posted("P91L50L60L70");
        check.due("all can be", post.cost(5, 10203), 5 + 7 + 9);
        check.due("the first is left out", post.cost(6, 410203), 5 + 7 + 9);
        check.due("one has no room", post.cost(4, 1203), 5 + 8);
        check.due("one is SENT twice", post.cost(3, 101), 5);
        check.due("one that is left out takes no room", post.cost(2, 82), 6);
        check.due("none can be", post.cost(6, 877778), 0);
    }

    private static void promise17Paid() {
        check.sentence(17, "COST of such a row");
        WaitedPost post = Check.posted("P12L51L52L53E01");
        check.due("nothing", post.cost(1, 9), 0);
        check.due("A DAY", post.cost(1, 0), 0);
        check.due("one", post.cost(1, 1), 10);
        check.due("explained on that DAY", post.cost(2, 12), 10 + 12);
        check.due("the other way about", post.cost(2, 21), 15 + 10);
        check.due("half tomorrow", post.cost(3, 12), 6 + 15 / 2);
        check.due("the day behind", post.cost(4, 12), 14 + 18);
        post.send(0);
        check.due("what was paid ahead is none of it", post.cost(1, 2), 12);
        check.due("room for one more", post.cost(2, 32), 0);
        check.due("paid", post.count(7), 10);
    }
}
