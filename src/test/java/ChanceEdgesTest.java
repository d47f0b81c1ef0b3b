import java.math.BigInteger;

/** Each boundary that the document names of how long, who, shares, rests and chances: promises 18 to 24. */
public final class ChanceEdgesTest {
    private static final Check check = new Check();
    private static final int NONE = WaitedPost.NONE;
    private static final int OUTSIDE = WaitedPost.OUTSIDE;
    private static final BigInteger TIMES = new BigInteger("6364136223846793005");
    private static final BigInteger MORE = new BigInteger("1442695040888963407");
    private static final BigInteger WHOLE = BigInteger.ONE.shiftLeft(64);

    public static void main(String[] args) {
        promise18Price();
        promise18Days();
        promise18AllElse();
        promise19NoneOfThem();
        promise19InAllInNone();
        promise19None();
        promise19SentAlone();
        promise19Outside();
        promise20NoRoom();
        promise20ThatAreNotSent();
        promise20LessThan0();
        promise20WasSent();
        promise20LeastTerms();
        promise21FourDays();
        promise21NothingElse();
        promise21Room();
        promise21ThreeLess();
        promise21ZeroAtLeast();
        promise21BeforeTheHalf();
        promise21EarlierDay();
        promise21TwoMore();
        promise21ByAnotherDay();
        promise21First();
        promise21None();
        promise22Tenths();
        promise22PriceOrLess();
        promise22SentAndExplains();
        promise23Seed();
        promise24AtFirst();
        promise24Times();
        promise24Wrapping();
        promise24Upper31Bits();
        promise24LetterIsSent();
        promise24ADay();
        promise24AllTogether();
        promise24NothingChanges();
        check.end();
    }

    // ---- how long, who

    private static void promise18Price() {
        check.sentence(18, "WAITS for a LETTER and a price p (0 to 60)");
        WaitedPost post = Check.posted("P91L02");
        post.tear(0);
        check.due("waits(0, -1)", post.waits(0, -1), OUTSIDE);
        check.due("waits(0, 0)", post.waits(0, 0), 1);
        check.due("waits(0, 1)", post.waits(0, 1), 0);
        check.due("waits(0, 53)", post.waits(0, 53), 0);
        check.due("waits(0, 54), the dearest", post.waits(0, 54), 1 << 9);
        check.due("waits(0, 55)", post.waits(0, 55), 0);
        check.due("waits(0, 59)", post.waits(0, 59), 0);
        // ten days would pay 60
        check.due("waits(0, 60)", post.waits(0, 60), 0);
        check.due("waits(0, 61)", post.waits(0, 61), OUTSIDE);
    }

    private static void promise18Days() {
        check.sentence(18, "DAYS (bits, 0 to 9) which it may have WAITED now");
        WaitedPost post = Check.posted("P91L50");
        for (int p = 0; p <= 9; p++) {
            check.due("waits(0, " + p + ")", post.waits(0, p), 1 << p);
        }
        check.due("waits(0, 10)", post.waits(0, 10), 0);
        Check.days(post, 60);
        check.due("WAITED 65, waits(0, 9)", post.waits(0, 9), 1 << 9);
        check.due("WAITED 65, waits(0, 60)", post.waits(0, 60), 0);
        check.due("a widow's", Check.posted("P91L53").waits(0, 0), 1023);
    }

    private static void promise18AllElse() {
        check.sentence(18, "all else as it is, so that its PRICE is p now");
        WaitedPost post = Check.posted("P11L51L00E10");
        check.due("as it is told", post.waits(0, 6), 1 << 3);
        post.send(1);
        check.due("explained: 0 or 1", post.waits(0, 0), 3);
        check.due("explained: 2", post.waits(0, 1), 1 << 2);
        post.day();
        check.due("half of that: 0 or 1 or 2", post.waits(0, 0), 7);
        check.due("half of that: 3", post.waits(0, 1), 1 << 3);
        post.tear(0);
        check.due("torn, half: 0 or 1", post.waits(0, 0), 3);
        check.due("torn, half: 2", post.waits(0, 2), 1 << 2);
        post.day();
        check.due("torn, behind the pardon: 1", post.waits(0, 1), 1 << 1);
    }

    private static void who(WaitedPost post, int p, int many, int inAll, int inNone) {
        check.due("who(0, " + p + ", 0)", post.who(0, p, 0), many);
        check.due("who(0, " + p + ", 1)", post.who(0, p, 1), inAll);
        check.due("who(0, " + p + ", 2)", post.who(0, p, 2), inNone);
    }

    private static void promise19NoneOfThem() {
        check.sentence(19, "sets of LETTERS (bits; none of them, too), each of which EXPLAINS it");
        who(Check.posted("P91L50"), 5, 1, 0, 0);
        who(Check.posted("P91L50L00E10"), 5, 1, 0, 2);
        who(Check.posted("P91L50L00E10"), 2, 1, 2, 0);
        // the other one explains nothing, and what it explains itself does not matter
        who(Check.posted("P91L50L00L00E10E02"), 2, 1, 2, 0);
        who(Check.posted("P91L53L00L00L00L00L00E10E20E30E40E50"), 0, 32, 0, 0);
    }

    private static void promise19InAllInNone() {
        check.sentence(19, "how many; which are in all; in none (of those that EXPLAIN it)");
        // apology of 27: 24 by one, 21 by two, 18 by three
        WaitedPost post = Check.posted("P91L92L00L00L00E10E20E30");
        who(post, 27, 1, 0, 14);
        who(post, 24, 3, 0, 0);
        who(post, 21, 3, 0, 0);
        who(post, 18, 1, 14, 0);
        // thanks of 6: 0 by two or three
        who(Check.posted("P91L60L00L00L00E10E20E30"), 0, 4, 0, 0);
        who(Check.posted("P91L60L00L00E10E20"), 0, 1, 6, 0);
    }

    private static void promise19None() {
        check.sentence(19, "NONE (of the latter two): there are none.");
        WaitedPost post = Check.posted("P91L50L00E10");
        who(post, 4, 0, NONE, NONE);
        who(post, 5, 1, 0, 2);
        who(post, 6, 0, NONE, NONE);
        who(post, 1, 0, NONE, NONE);
        who(post, 3, 0, NONE, NONE);
        who(post, 60, 0, NONE, NONE);
    }

    private static void promise19SentAlone() {
        check.sentence(19, "by which alone, SENT, its PRICE is p now");
        WaitedPost post = Check.posted("P13L52L00L00E10E20");
        post.send(1);
        who(post, 15, 1, 0, 6);
        who(post, 12, 2, 0, 0);
        who(post, 9, 1, 6, 0);
        post.day();
        // 18, 15, 12, halved
        who(post, 9, 1, 0, 6);
        who(post, 7, 2, 0, 0);
        who(post, 6, 1, 6, 0);
    }

    private static void promise19Outside() {
        check.sentence(19, "OUTSIDE: p, what");
        WaitedPost post = Check.posted("P91L00");
        check.due("who(0, -1, 0)", post.who(0, -1, 0), OUTSIDE);
        check.due("who(0, 0, 0)", post.who(0, 0, 0), 1);
        check.due("who(0, 1, 0)", post.who(0, 1, 0), 0);
        check.due("who(0, 59, 0)", post.who(0, 59, 0), 0);
        check.due("who(0, 60, 0)", post.who(0, 60, 0), 0);
        check.due("who(0, 61, 0)", post.who(0, 61, 0), OUTSIDE);
        check.due("who(0, 0, -1)", post.who(0, 0, -1), OUTSIDE);
        check.due("who(0, 0, 2)", post.who(0, 0, 2), 0);
        check.due("who(0, 0, 3)", post.who(0, 0, 3), OUTSIDE);
        WaitedPost sixty = Check.posted("P91L92");
        Check.days(sixty, 11);
        check.due("who(0, 60, 0) of price 60", sixty.who(0, 60, 0), 1);
    }

    // ---- shares

    private static void share(WaitedPost post, int letter, int above, int below) {
        check.fraction("share(" + letter + ")", post.share(letter, true), post.share(letter, false), above, below);
    }

    private static void promise20NoRoom() {
        check.sentence(20, "(no room: as if that set paid 999)");
        // widows: the one that comes fifth pays 999, the sixth one no more than the fifth
        share(Check.posted("P91L03L03L03L03"), 0, 0, 1);
        share(Check.posted("P91L03L03L03L03L03"), 0, 999, 5);
        share(Check.posted("P91L03L03L03L03L03L03"), 0, 999 / 3, 2);
        share(Check.posted("P92L03L03L03L03L03L03"), 0, 0, 1);
        // thanks of 1, 2, 3, 4 a day later each; the fifth one comes to 999 for a set of 10
        WaitedPost thanks = Check.posted("P91L10L10L10L10L10");
        share(thanks, 0, 1 + 2 + 3 + 4 + 989, 5);
        // this day is full: 2, 3, 4, then 999 for a set of 9
        thanks.send(4);
        share(thanks, 0, 2 + 3 + 4 + 990, 4);
    }

    private static void promise20ThatAreNotSent() {
        check.sentence(20, "if LETTERS that are not SENT come one by one, in each order as likely");
        WaitedPost post = Check.posted("P93L00L90L90E01E02");
        // alone 0; with one of them 3 less; with both 6 less: ahead of it come none, one, two, as likely
        share(post, 0, -3, 1);
        share(post, 1, 9 * 2 - 3, 2);
        post.send(2);
        share(post, 0, -3, 2);
        share(post, 1, 9 * 2 - 3, 2);
        share(post, 2, 0, 1);
    }

    private static void promise20LessThan0() {
        check.sentence(20, "a FRACTION (less than 0: the upper one is)");
        // it takes 3 from the one that pays 2, 3, 4 if that came ahead: -2 / 2, -3 / 2, -3 / 2
        share(Check.posted("P93L00L20E01"), 0, -1, 1);
        share(Check.posted("P93L00L30E01"), 0, -3, 2);
        share(Check.posted("P93L00L40E01"), 0, -3, 2);
        // and pays 3 itself: just 0 and one more
        share(Check.posted("P93L00L00E01"), 0, 0, 1);
        share(Check.posted("P93L10L20E01"), 0, 0, 1);
        share(Check.posted("P93L20L30E01"), 0, 1, 2);
        share(Check.posted("P93L10L30E01"), 0, -1, 2);
    }

    private static void promise20WasSent() {
        check.sentence(20, "0, if it was SENT.");
        WaitedPost post = Check.posted("P92L50L60");
        share(post, 0, 5, 1);
        post.send(0);
        share(post, 0, 0, 1);
        share(post, 1, 6, 1);
        post.send(1);
        share(post, 0, 0, 1);
        share(post, 1, 0, 1);
        post.undo();
        share(post, 1, 6, 1);
    }

    private static void promise20LeastTerms() {
        check.sentence(20, "FRACTIONS are told above (upper = true), below (1 and more), in least terms");
        // 0, whole, less than 1, more than 1, less than 0
        share(Check.posted("P91L03"), 0, 0, 1);
        share(Check.posted("P91L92"), 0, 27, 1);
        share(Check.posted("P91L00L00"), 0, 1, 2);
        share(Check.posted("P91L10L10"), 0, 3, 2);
        share(Check.posted("P91L10L10L10"), 0, 2, 1);
        share(Check.posted("P91L10L10L10L10"), 0, 5, 2);
        share(Check.posted("P91L00L03"), 0, 0, 1);
        // tenths: of 9 / 10, 81 / 100 and 5 / 10
        WaitedPost post = Check.posted("P92L20L00L00E10E20");
        post.send(1);
        check.fraction("lost(0, 1, 1)", post.lost(0, 1, 1, true), post.lost(0, 1, 1, false), 9, 10);
        check.fraction("lost(0, 1, 2)", post.lost(0, 1, 2, true), post.lost(0, 1, 2, false), 4, 5);
        check.fraction("lost(0, 1, 5)", post.lost(0, 1, 5, true), post.lost(0, 1, 5, false), 1, 2);
        post.send(2);
        check.fraction("lost(0, 1, 9), two", post.lost(0, 1, 9, true), post.lost(0, 1, 9, false), 19, 100);
        check.fraction("lost(0, 1, 5), two", post.lost(0, 1, 5, true), post.lost(0, 1, 5, false), 3, 4);
    }

    // ---- rests

    private static void rests(WaitedPost post, int one, int other, int many, int first) {
        String call = "rests(" + one + ", " + other + ", ";
        check.due(call + "0)", post.rests(one, other, 0), many);
        check.due(call + "1)", post.rests(one, other, 1), first);
    }

    private static void promise21FourDays() {
        check.sentence(21, "each is SENT IN 0 to 3 DAYS");
        // (9 + n) / 2 on the pardon is the least on whichever of the four days it is, and a widow's on the other three
        for (int pardon = 0; pardon <= 3; pardon++) {
            rests(Check.posted("P" + pardon + "1L90L03"), 0, 1, 3, 10 * pardon + (pardon == 0 ? 1 : 0));
        }
        // the fifth day is none of them: 9 today, or 10 tomorrow if the widow's is sent today
        rests(Check.posted("P41L90L03"), 0, 1, 4, 1);
    }

    private static void promise21NothingElse() {
        check.sentence(21, "and pays its PRICE then as it is if nothing else is done");
        // love of 10, then 12: 01, 02, 03, 10; it pays as much as today on as many DAYS more as its clock stands
        WaitedPost post = Check.posted("P91L51L03");
        rests(post, 0, 1, 4, 1);
        post.card(0);
        rests(post, 0, 1, 12, 1);
        post.day();
        rests(post, 0, 1, 9, 1);
        post.day();
        rests(post, 0, 1, 6, 1);
        post.day();
        rests(post, 0, 1, 4, 1);
        // a third one that was SENT EXPLAINS it: 0 today, 0 tomorrow, 1 in two days; a day later 0, then 1
        WaitedPost explained = Check.posted("P91L20L03L00E20");
        rests(explained, 0, 1, 4, 1);
        explained.send(2);
        rests(explained, 0, 1, 6, 1);
        explained.day();
        rests(explained, 0, 1, 4, 1);
        // thanks that were torn wait as dearly as love: both today is a pair, too
        WaitedPost torn = Check.posted("P91L50L51");
        rests(torn, 0, 1, 2, 1);
        torn.tear(0);
        rests(torn, 0, 1, 3, 0);
    }

    private static void promise21Room() {
        check.sentence(21, "(ROOM does not matter)");
        // 2 more on one day, as much as love a day later: both today is a pair
        for (int room = 1; room <= 3; room++) {
            WaitedPost post = Check.posted("P9" + room + "L51L51L03L03L03");
            rests(post, 0, 1, 3, 0);
            for (int letter = 2; letter < 2 + room; letter++) {
                post.send(letter);
            }
            check.due("this day is full", post.send(0), WaitedPost.FULL);
            rests(post, 0, 1, 3, 0);
        }
    }

    private static void promise21ThreeLess() {
        check.sentence(21, "3 less (0 at least) if the other one EXPLAINS it and was SENT on an earlier DAY");
        // thanks of 9, behind the widow's: 7 tomorrow, 8 in two days, 9 in three: 01, 12, 20, 23, 30
        rests(Check.posted("P91L03L90E01"), 0, 1, 5, 1);
        // love of 18: 17 tomorrow, but 19 in two days: 01, 10, 20, 30
        rests(Check.posted("P91L03L91E01"), 0, 1, 4, 1);
        // apology of 27: 27 tomorrow, which is less than 27 and 2 more today: 01, 10, 20, 30
        rests(Check.posted("P91L03L92E01"), 0, 1, 4, 1);
        // what it EXPLAINS itself makes nothing less: 01, 10, 20, 30
        rests(Check.posted("P91L03L90E10"), 0, 1, 4, 1);
    }

    private static void promise21ZeroAtLeast() {
        check.sentence(21, "3 less (0 at least)");
        // behind the widow's 2 - 3 and 3 - 3 are 0 both, 4 - 3 is not: 01, 02, 12, 20, 23, 30
        rests(Check.posted("P91L03L10E01"), 0, 1, 6, 1);
        // 1 - 3, 2 - 3 and 3 - 3 are 0 all: 01, 02, 03, 10, 12, 13, 20, 23, 30
        rests(Check.posted("P91L03L00E01"), 0, 1, 9, 1);
        // 3 - 3 is 0, 4 - 3 is not: 01, 12, 20, 23, 30
        rests(Check.posted("P91L03L20E01"), 0, 1, 5, 1);
    }

    private static void promise21BeforeTheHalf() {
        check.sentence(21, "(before the half of PARDON is cut)");
        // (7 - 3) / 2 in three days is as much as 5 - 3 tomorrow; 7 / 2 - 3 would be less: 01, 03, 13, 23, 30
        rests(Check.posted("P31L03L40E01"), 0, 1, 5, 1);
        // (6 - 3) / 2 is as much as 4 - 3
        rests(Check.posted("P31L03L30E01"), 0, 1, 5, 1);
        // (8 - 3) / 2 is less than 6 - 3: 03, 13, 23, 30
        rests(Check.posted("P31L03L50E01"), 0, 1, 4, 3);
        // (5 - 3) / 2 is as much as 4 - 3, and 3 - 3 is less: 01, 12, 13, 23, 30
        rests(Check.posted("P31L03L20E01"), 0, 1, 5, 1);
    }

    private static void promise21EarlierDay() {
        check.sentence(21, "was SENT on an earlier DAY");
        // on the same day it is not explained yet, by number or not, and pays 2 more
        WaitedPost post = Check.posted("P91L03L92E01");
        check.due("rests(0, 1, 1)", post.rests(0, 1, 1), 1);
        check.due("rests(1, 0, 1)", post.rests(1, 0, 1), 1);
        WaitedPost back = Check.posted("P91L92L03E10");
        check.due("back rests(0, 1, 0)", back.rests(0, 1, 0), 4);
        check.due("back rests(0, 1, 1)", back.rests(0, 1, 1), 1);
        check.due("back rests(1, 0, 1)", back.rests(1, 0, 1), 1);
    }

    private static void promise21TwoMore() {
        check.sentence(21, "and 2 more, if both are SENT on one DAY");
        // a day later: thanks 1 more, love 2 more, apology 3 more
        rests(Check.posted("P91L50L50"), 0, 1, 2, 1);
        rests(Check.posted("P91L51L51"), 0, 1, 3, 0);
        rests(Check.posted("P91L52L52"), 0, 1, 1, 0);
        rests(Check.posted("P91L53L53"), 0, 1, 12, 1);
    }

    private static void promise21ByAnotherDay() {
        check.sentence(21, "pairs in which neither pays less by another DAY alone: how many");
        // as much by another day is not less: love and love; less by 1 is: thanks and love
        rests(Check.posted("P91L51L51"), 0, 1, 3, 0);
        rests(Check.posted("P91L50L51"), 0, 1, 2, 1);
        rests(Check.posted("P91L51L52"), 0, 1, 2, 0);
        rests(Check.posted("P91L52L52"), 0, 1, 1, 0);
    }

    private static void promise21First() {
        check.sentence(21, "the first (10 times the one and the other)");
        // thanks on the third day, halved; the widow on the first that is another one
        WaitedPost post = Check.posted("P31L90L03");
        check.due("rests(0, 1, 1)", post.rests(0, 1, 1), 30);
        check.due("rests(1, 0, 1)", post.rests(1, 0, 1), 3);
        check.due("rests(0, 1, 0)", post.rests(0, 1, 0), 3);
        check.due("rests(1, 0, 0)", post.rests(1, 0, 0), 3);
        check.due("both today", Check.posted("P91L52L52").rests(0, 1, 1), 0);
        check.due("both in 3 days", Check.posted("P31L92L92").rests(0, 1, 1), 33);
    }

    private static void promise21None() {
        check.sentence(21, "RESTS: how many (what = 0), the first (1); NONE.");
        // each explains the other one, and would go a day behind it
        rests(Check.posted("P41L20L20E01E10"), 0, 1, 0, NONE);
        rests(Check.posted("P41L20L20E01"), 0, 1, 1, 1);
    }

    // ---- lost

    private static void lost(WaitedPost post, int p, int x, int above, int below) {
        String call = "lost(0, " + p + ", " + x + ")";
        check.fraction(call, post.lost(0, p, x, true), post.lost(0, p, x, false), above, below);
    }

    private static void promise22Tenths() {
        check.sentence(22, "was lost by x tenths (0 to 10), by itself");
        WaitedPost post = Check.posted("P92L90L00L00E10E20");
        post.send(1);
        check.due("lost(0, 6, -1)", post.lost(0, 6, -1, true), OUTSIDE);
        lost(post, 6, 0, 1, 1);
        lost(post, 6, 1, 9, 10);
        lost(post, 6, 9, 1, 10);
        lost(post, 6, 10, 0, 1);
        check.due("lost(0, 6, 11)", post.lost(0, 6, 11, true), OUTSIDE);
        post.send(2);
        lost(post, 3, 0, 1, 1);
        lost(post, 3, 1, 81, 100);
        lost(post, 6, 1, 99, 100);
        lost(post, 3, 9, 1, 100);
        lost(post, 6, 9, 19, 100);
        lost(post, 6, 10, 0, 1);
        lost(post, 9, 10, 1, 1);
    }

    private static void promise22PriceOrLess() {
        check.sentence(22, "that the PRICE of that one is now p (0 to 60) or less");
        WaitedPost post = Check.posted("P92L30L00E10");
        check.due("lost(0, -1, 5)", post.lost(0, -1, 5, true), OUTSIDE);
        lost(post, 2, 5, 0, 1);
        lost(post, 3, 5, 1, 1);
        lost(post, 4, 5, 1, 1);
        post.send(1);
        lost(post, 0, 5, 1, 2);
        lost(post, 2, 5, 1, 2);
        lost(post, 3, 5, 1, 1);
        lost(post, 59, 5, 1, 1);
        lost(post, 60, 5, 1, 1);
        check.due("lost(0, 61, 5)", post.lost(0, 61, 5, true), OUTSIDE);
        WaitedPost sixty = Check.posted("P91L92");
        Check.days(sixty, 11);
        lost(sixty, 59, 5, 0, 1);
        lost(sixty, 60, 5, 1, 1);
        sixty.day();
        lost(sixty, 60, 5, 0, 1);
        WaitedPost half = Check.posted("P02L32L00E10");
        half.send(1);
        // 9 / 2 and (9 - 3) / 2
        lost(half, 2, 5, 0, 1);
        lost(half, 3, 5, 1, 2);
        lost(half, 4, 5, 1, 1);
    }

    private static void promise22SentAndExplains() {
        check.sentence(22, "each LETTER that was SENT and EXPLAINS a told one");
        WaitedPost post = Check.posted("P93L92L00L00L00L00L00E10E20E30E40E50");
        lost(post, 27, 5, 1, 1);
        lost(post, 26, 5, 0, 1);
        int[] below = {2, 4, 8, 16, 32};
        for (int letter = 1; letter <= 5; letter++) {
            post.send(letter);
            if (letter == 3) {
                post.tear(0);
                post.day();
                Check.days(post, 4);
            }
            // 27, or 30 behind five days torn, less 3 for each: just if none of them is lost
            lost(post, (letter < 3 ? 27 : 30) - 3 * letter, 5, 1, below[letter - 1]);
        }
        WaitedPost apart = Check.posted("P92L92L00L00E02");
        apart.send(1);
        apart.send(2);
        lost(apart, 27, 5, 1, 1);
        lost(apart, 26, 5, 0, 1);
    }

    // ---- the seed, years

    private static void promise23Seed() {
        check.sentence(23, "THE SEED is v: what it was.");
        WaitedPost post = new WaitedPost();
        check.due("0 at first", post.seed(-1), 0);
        check.due("seed(least)", post.seed(Long.MIN_VALUE), -1);
        check.due("seed(most)", post.seed(Long.MAX_VALUE), Long.MIN_VALUE);
        check.due("seed(1L << 32)", post.seed(1L << 32), Long.MAX_VALUE);
        check.due("seed(0)", post.seed(0), 1L << 32);
        check.due("seed(0) again", post.seed(0), 0);
    }

    /** The seed that becomes x by one year. */
    private static long ahead(long x) {
        return BigInteger.valueOf(x).subtract(MORE).multiply(TIMES.modInverse(WHOLE)).mod(WHOLE).longValue();
    }

    /** A seed by whose next year the upper 31 bits are as told. */
    private static long drawing(long upper) {
        return ahead(upper << 33);
    }

    private static int yearsFrom(WaitedPost post, long seed, int m) {
        post.seed(seed);
        return post.years(m);
    }

    private static void promise24AtFirst() {
        check.sentence(24, "x (THE SEED, a long; 0 at first)");
        check.due("the seed at first", new WaitedPost().seed(1), 0);
        WaitedPost post = new WaitedPost();
        check.due("years(1)", post.years(1), 0);
        check.due("the seed behind the first year", post.seed(0), MORE.longValue());
        check.due("years(1) from 1", yearsFrom(post, 1, 1), 0);
        check.due("the seed behind it", post.seed(0), TIMES.add(MORE).longValue());
        check.due("years(1) from -1", yearsFrom(post, -1, 1), 0);
        check.due("the seed behind it", post.seed(0), MORE.subtract(TIMES).longValue());
    }

    private static void promise24Times() {
        check.sentence(24, "m times (1 to 30)");
        WaitedPost post = Check.posted("P91L50");
        check.due("years(-1)", post.years(-1), OUTSIDE);
        check.due("years(0)", post.years(0), OUTSIDE);
        check.due("the seed stays", post.seed(0), 0);
        check.due("years(31)", post.years(31), OUTSIDE);
        check.due("the seed stays", post.seed(0), 0);
        for (int m : new int[] {1, 2, 29, 30}) {
            BigInteger x = BigInteger.ZERO;
            for (int i = 0; i < m; i++) {
                x = x.multiply(TIMES).add(MORE);
            }
            check.due("years(" + m + ")", yearsFrom(post, 0, m) >= 0);
            check.due("the seed behind " + m, post.seed(0), x.longValue());
        }
    }

    private static void promise24Wrapping() {
        check.sentence(24, "(64 bits, wrapping)");
        WaitedPost post = new WaitedPost();
        for (long seed : new long[] {Long.MIN_VALUE, -1, 0, 1, 2, Long.MAX_VALUE}) {
            yearsFrom(post, seed, 1);
            long due = BigInteger.valueOf(seed).multiply(TIMES).add(MORE).longValue();
            check.due("the seed behind " + seed, post.seed(0), due);
        }
        for (long x : new long[] {Long.MIN_VALUE, -1, 0, 1, Long.MAX_VALUE}) {
            yearsFrom(post, ahead(x), 1);
            check.due("the seed becomes", post.seed(0), x);
        }
    }

    private static void promise24Upper31Bits() {
        check.sentence(24, "its upper 31 bits by 9, what is left");
        WaitedPost post = Check.posted("P91L10L20L30L40L50L60");
        // all 31 are 2147483647, which leaves 1; the lower 33 do not matter
        check.due("all 64", yearsFrom(post, ahead(-1), 1), 2);
        check.due("all 31", yearsFrom(post, ahead(-1L << 33), 1), 2);
        check.due("the 33rd", yearsFrom(post, ahead(1L << 32), 1), 1);
        check.due("all lower 33", yearsFrom(post, ahead((1L << 33) - 1), 1), 1);
        check.due("the 34th", yearsFrom(post, ahead(1L << 33), 1), 2);
        // the uppermost alone is 1073741824, which leaves 1, and all but that 1073741823, which leaves 0
        check.due("the 64th", yearsFrom(post, ahead(Long.MIN_VALUE), 1), 2);
        check.due("all but the 64th", yearsFrom(post, ahead(Long.MAX_VALUE), 1), 1);
        check.due("8", yearsFrom(post, drawing(8), 1), 0);
        check.due("9", yearsFrom(post, drawing(9), 1), 1);
        check.due("10", yearsFrom(post, drawing(10), 1), 2);
    }

    private static void promise24LetterIsSent() {
        check.sentence(24, "0 to 5 that LETTER is SENT, if it can be");
        for (int many = 0; many <= 6; many++) {
            WaitedPost post = Check.posted("P91L10L20L30L40L50L60".substring(0, 3 + 3 * many));
            for (int drawn = 0; drawn <= 8; drawn++) {
                int due = drawn < many ? drawn + 1 : 0;
                check.due("drawn " + drawn + " of " + many, yearsFrom(post, drawing(drawn), 1), due);
            }
        }
        WaitedPost post = Check.posted("P91L10L20");
        post.send(1);
        check.due("it was SENT", yearsFrom(post, drawing(1), 1), 0);
        check.due("there is no room", yearsFrom(post, drawing(0), 1), 0);
        post.day();
        check.due("there is room", yearsFrom(post, drawing(0), 1), 2);
    }

    /** A seed by which two years draw as told: the second one follows from the first, so it is looked for. */
    private static long drawingTwo(int first, int second) {
        for (long upper = first; upper < 9000; upper += 9) {
            long x = upper << 33;
            long next = BigInteger.valueOf(x).multiply(TIMES).add(MORE).longValue();
            if ((next >>> 33) % 9 == second) {
                return ahead(x);
            }
        }
        throw new IllegalStateException("no such seed");
    }

    private static void promise24ADay() {
        check.sentence(24, "6 and more: A DAY");
        WaitedPost post = Check.posted("P91L51L60L50L50L50L50");
        for (int drawn = 6; drawn <= 8; drawn++) {
            check.due("drawn " + drawn + ", then 0", yearsFrom(post, drawingTwo(drawn, 0), 2), 12);
        }
        check.due("drawn 5, then 0", yearsFrom(post, drawingTwo(5, 0), 2), 5);
        post.send(1);
        check.due("drawn 5 without room, then 0", yearsFrom(post, drawingTwo(5, 0), 2), 0);
        check.due("drawn 6, there is room anew", yearsFrom(post, drawingTwo(6, 0), 2), 12);
    }

    private static void promise24AllTogether() {
        check.sentence(24, "what is paid in these, all together");
        WaitedPost post = Check.posted("P93L50L60L70E01");
        check.due("two", yearsFrom(post, drawingTwo(0, 2), 2), 5 + 7);
        check.due("explained", yearsFrom(post, drawingTwo(0, 1), 2), 5 + 3);
        check.due("one twice", yearsFrom(post, drawingTwo(0, 0), 2), 5);
        post.send(2);
        check.due("what was paid ahead is none of it", yearsFrom(post, drawingTwo(0, 1), 2), 5 + 3);
        check.due("not even if nothing is", yearsFrom(post, drawingTwo(2, 7), 2), 0);
    }

    private static WaitedPost begun() {
        WaitedPost post = Check.posted("P92L50L60L70");
        post.send(0);
        post.keep(1);
        post.day();
        return post;
    }

    private static void promise24NothingChanges() {
        check.sentence(24, "(Nothing changes but THE SEED.)");
        // a LETTER is SENT, one that was SENT can not be, A DAY, and whatever comes by the longest run
        for (long seed : new long[] {drawing(1), drawing(0), drawing(6), 0}) {
            int m = seed == 0 ? 30 : 1;
            check.changesNothing("years(" + m + ") from " + seed + ", the seed put back", ChanceEdgesTest::begun, post -> {
                yearsFrom(post, seed, m);
                post.seed(0);
                return post.count(7);
            }, 5);
        }
        WaitedPost post = begun();
        check.due("one is sent", yearsFrom(post, drawing(1), 1), 7);
        check.due("the seed", post.seed(0), 1L << 33);
        check.due("a day", yearsFrom(post, drawing(6), 1), 0);
        check.due("the seed then", post.seed(0), 6L << 33);
        check.due("undo()", post.undo(), 1);
        check.due("again(1)", post.again(1), 0);
    }
}
