/** Promises 20 to 24: share, rests, lost, seed, years. */
public final class SharesTest {
    private static final Check check = new Check();

    public static void main(String[] args) {
        promise20Share();
        promise20ShareWithoutRoom();
        promise21Rests();
        promise21RestsRefuses();
        promise22Lost();
        promise22LostRefuses();
        promise23Seed();
        promise24Years();
        check.end();
    }

    private static void fraction(String call, int above, int below, int wantAbove, int wantBelow) {
        check.due(call + " above", above, wantAbove);
        check.due(call + " below", below, wantBelow);
    }

    private static void share(WaitedPost post, int letter, int above, int below) {
        fraction("share(" + letter + ")", post.share(letter, true), post.share(letter, false), above, below);
    }

    private static void lost(WaitedPost post, int p, int x, int above, int below) {
        fraction("lost(0, " + p + ", " + x + ")", post.lost(0, p, x, true), post.lost(0, p, x, false), above, below);
    }

    private static void promise20Share() {
        check.promise("promise 20");
        WaitedPost alone = Check.posted("P91L51");
        share(alone, 0, 10, 1);
        check.due("share(1)", alone.share(1, true), WaitedPost.UNKNOWN);
        check.due("share(-1)", alone.share(-1, false), WaitedPost.UNKNOWN);
        alone.send(0);
        share(alone, 0, 0, 1);
        // plans: {0} 4, {1} 10, both 4 + 9 = 13: (4 + 3) / 2 and (10 + 9) / 2
        WaitedPost two = Check.posted("P91L21L51E01");
        share(two, 0, 7, 2);
        share(two, 1, 19, 2);
        // {1} and {2} pay 2 each, {1, 2} 4, each set with 0 nothing: (-2 - 2 + 2 * -4) / 6; what was sent does not come
        WaitedPost helps = Check.posted("P93L00L20L20L21E01E02");
        helps.send(3);
        share(helps, 0, -2, 1);
        WaitedPost less = Check.posted("P93L00L40L30E01E02");
        // 0 takes 3 from each: (2 * 0 - 3 - 3 + 2 * -6) / 6; 1 pays 4 without it, 1 with it: (2 * 4 + 1 + 4 + 2 * 1) / 6
        share(less, 0, -3, 1);
        share(less, 1, 5, 2);
        WaitedPost third = Check.posted("P93L00L20L30E01");
        // 0 takes 2 from 1: (-2 - 2 - 2) / 6
        share(third, 0, -1, 1);
        share(third, 1, 1, 1);
        share(third, 2, 3, 1);
        String before = Check.view(third);
        third.share(0, true);
        check.due("nothing changed", Check.view(third).equals(before));
    }

    private static void promise20ShareWithoutRoom() {
        // widows, one a day: a fifth one has no room: 999 in the mean over five
        WaitedPost five = Check.posted("P91L13L13L13L13L13");
        share(five, 2, 999, 5);
        // this day is full, three more have room: the fourth of four has none
        five.send(4);
        share(five, 0, 999, 4);
        share(five, 4, 0, 1);
        five.day();
        share(five, 0, 0, 1);
        // the fifth one has no room, and the sixth one changes nothing: 999 / 6
        WaitedPost six = Check.posted("P91L13L13L13L13L13L13");
        share(six, 5, 333, 2);
    }

    private static void rests(WaitedPost post, int one, int other, int many, int first) {
        String call = "rests(" + one + ", " + other + ", ";
        check.due(call + "0)", post.rests(one, other, 0), many);
        check.due(call + "1)", post.rests(one, other, 1), first);
    }

    private static void promise21Rests() {
        check.promise("promise 21");
        // widows rest on each two days that are not one
        WaitedPost widows = Check.posted("P91L13L13");
        rests(widows, 0, 1, 12, 1);
        // love waits at 2 a day: both today pays 2 more, as much as tomorrow: 00, 01, 10
        WaitedPost love = Check.posted("P91L51L51");
        rests(love, 0, 1, 3, 0);
        // each would go a day behind the other one, or today when that is dear: they never rest
        rests(Check.posted("P41L20L20E01E10"), 0, 1, 0, WaitedPost.NONE);
        // the pardon on the fifth day is none of the four
        rests(Check.posted("P41L91L91"), 0, 1, 3, 0);
        // thanks wait at 1 a day: both today is 2 more, tomorrow 1 more
        WaitedPost thanks = Check.posted("P91L50L50");
        rests(thanks, 0, 1, 2, 1);
        // the explained one goes a day behind: 1 more, but 3 less
        WaitedPost explained = Check.posted("P91L50L90E01");
        rests(explained, 0, 1, 1, 1);
        rests(explained, 1, 0, 1, 10);
        // apology waits at 3 a day; explained it pays as much tomorrow as today, but 2 more beside the other
        WaitedPost apology = Check.posted("P91L53L92E01");
        check.due("27 + 2 today, 27 tomorrow", apology.rests(0, 1, 0), 4);
        check.due("the widow today", apology.rests(0, 1, 1), 1);
        // the room does not matter; what was sent and the clock do: 01, 10, 20, 30
        WaitedPost clock = Check.posted("P92L51L51L00E21");
        clock.card(0);
        clock.send(2);
        rests(clock, 0, 1, 4, 1);
        WaitedPost pardon = Check.posted("P12L51L32E01");
        rests(pardon, 0, 1, 1, 11);
        // 2 more is not halved: beside the widow on the pardon 2 + 2, as much as today: 01, 10, 12, 13
        WaitedPost whole = Check.posted("P12L40L03");
        rests(whole, 0, 1, 4, 1);
        // 3 less is halved: 5 - 3 tomorrow, as much as (7 - 3) / 2 on the pardon: 01, 03, 30
        WaitedPost halved = Check.posted("P31L00L40E01");
        rests(halved, 0, 1, 3, 1);
        String before = Check.view(clock);
        clock.rests(0, 1, 1);
        check.due("nothing changed", Check.view(clock).equals(before));
    }

    private static void promise21RestsRefuses() {
        WaitedPost post = Check.posted("P92L51L51L00");
        check.due("rests(3, 0, 0)", post.rests(3, 0, 0), WaitedPost.UNKNOWN);
        check.due("rests(0, 3, 2)", post.rests(0, 3, 2), WaitedPost.UNKNOWN);
        check.due("rests(-1, 0, 0)", post.rests(-1, 0, 0), WaitedPost.UNKNOWN);
        check.due("rests(3, 3, 0)", post.rests(3, 3, 0), WaitedPost.UNKNOWN);
        check.due("rests(0, 0, 0)", post.rests(0, 0, 0), WaitedPost.OUTSIDE);
        check.due("rests(0, 1, 2)", post.rests(0, 1, 2), WaitedPost.OUTSIDE);
        check.due("rests(0, 1, -1)", post.rests(0, 1, -1), WaitedPost.OUTSIDE);
        post.send(0);
        check.due("rests(0, 1, 0), sent", post.rests(0, 1, 0), WaitedPost.STATE);
        check.due("rests(1, 0, 1), sent", post.rests(1, 0, 1), WaitedPost.STATE);
        check.due("rests(0, 0, 0), sent", post.rests(0, 0, 0), WaitedPost.OUTSIDE);
        check.due("rests(0, 1, 2), sent", post.rests(0, 1, 2), WaitedPost.OUTSIDE);
    }

    private static void promise22Lost() {
        check.promise("promise 22");
        WaitedPost post = Check.posted("P93L51L00L00L00L00E10E20E30");
        lost(post, 9, 5, 0, 1);
        lost(post, 10, 5, 1, 1);
        post.send(1);
        post.send(2);
        post.send(4);
        // 10 by none, 7 by one, 4 by both
        lost(post, 3, 3, 0, 1);
        lost(post, 4, 3, 49, 100);
        lost(post, 6, 3, 49, 100);
        lost(post, 7, 3, 91, 100);
        lost(post, 9, 3, 91, 100);
        lost(post, 10, 3, 1, 1);
        lost(post, 4, 0, 1, 1);
        lost(post, 4, 10, 0, 1);
        lost(post, 9, 10, 0, 1);
        lost(post, 10, 10, 1, 1);
        lost(post, 7, 5, 3, 4);
        post.day();
        post.send(3);
        // 12, 9, 6, 3
        lost(post, 3, 9, 1, 1000);
        lost(post, 6, 9, 7, 250);
        lost(post, 9, 9, 271, 1000);
        lost(post, 60, 9, 1, 1);
        WaitedPost half = Check.posted("P03L32L00E10");
        half.send(1);
        // 9 / 2 by none, 6 / 2 by the one
        lost(half, 3, 2, 4, 5);
        lost(half, 2, 2, 0, 1);
        lost(half, 4, 2, 1, 1);
    }

    private static void promise22LostRefuses() {
        WaitedPost post = Check.posted("P93L51L00E10");
        check.due("lost(2, 61, 11)", post.lost(2, 61, 11, true), WaitedPost.UNKNOWN);
        check.due("lost(-1, 0, 0)", post.lost(-1, 0, 0, false), WaitedPost.UNKNOWN);
        check.due("lost(0, 61, 0)", post.lost(0, 61, 0, true), WaitedPost.OUTSIDE);
        check.due("lost(0, -1, 0)", post.lost(0, -1, 0, false), WaitedPost.OUTSIDE);
        check.due("lost(0, 0, 11)", post.lost(0, 0, 11, true), WaitedPost.OUTSIDE);
        check.due("lost(0, 0, -1)", post.lost(0, 0, -1, false), WaitedPost.OUTSIDE);
        post.send(0);
        check.due("lost(0, 0, 11), sent", post.lost(0, 0, 11, true), WaitedPost.OUTSIDE);
        check.due("lost(0, 0, 0), sent", post.lost(0, 0, 0, true), WaitedPost.STATE);
        check.due("lost(0, 0, 0), sent, below", post.lost(0, 0, 0, false), WaitedPost.STATE);
    }

    private static void promise23Seed() {
        check.promise("promise 23");
        WaitedPost post = new WaitedPost();
        check.due("seed(least)", post.seed(Long.MIN_VALUE), 0);
        check.due("seed(most)", post.seed(Long.MAX_VALUE), Long.MIN_VALUE);
        check.due("seed(-9)", post.seed(-9), Long.MAX_VALUE);
        check.due("seed(0)", post.seed(0), -9);
        post.years(1);
        check.due("one year", post.seed(0), 1442695040888963407L);
        post.years(2);
        check.due("two years", post.seed(0), 1442695040888963407L * 6364136223846793005L + 1442695040888963407L);
        post.years(0);
        post.years(31);
        check.due("refused years change nothing", post.seed(0), 0);
    }

    /** The years played by calls on a second object must pay the same. */
    private static void promise24Years() {
        check.promise("promise 24");
        for (int run = 0; run < 40; run++) {
            WaitedPost post = Check.posted("P22L51L32L43L91L02L70E01E12E50E04");
            WaitedPost played = Check.posted("P22L51L32L43L91L02L70E01E12E50E04");
            post.send(0);
            played.send(0);
            long x = run * 7919L - 20;
            post.seed(x);
            int before = played.count(7);
            String view = Check.view(post);
            int m = run % 30 + 1;
            for (int i = 0; i < m; i++) {
                x = x * 6364136223846793005L + 1442695040888963407L;
                long drawn = (x >>> 33) % 9;
                if (drawn < 6) {
                    played.send((int) drawn);
                } else {
                    played.day();
                }
            }
            check.due("years(" + m + ") by " + run, post.years(m), played.count(7) - before);
            check.due("the seed went on", post.seed(0), x);
            check.due("nothing else changed", Check.view(post).equals(view));
        }
        WaitedPost post = Check.posted("P02L91");
        check.due("years(0)", post.years(0), WaitedPost.OUTSIDE);
        check.due("years(31)", post.years(31), WaitedPost.OUTSIDE);
        check.due("years(-1)", post.years(-1), WaitedPost.OUTSIDE);
        check.due("years(1) without letters", new WaitedPost().years(1), 0);
    }
}
