/** Promises 12 to 17: price, cheapest, plan, order, judge, cost. */
public final class PricesTest {
    private static final Check check = new Check();

    public static void main(String[] args) {
        promise12Price();
        promise13Cheapest();
        promise14Plan();
        promise14PlanOfEqualOnes();
        promise14PlanRoom();
        promise14PlanRefuses();
        promise15Order();
        promise16Judge();
        promise17Cost();
        check.end();
    }

    private static void promise12Price() {
        check.promise("promise 12");
        WaitedPost post = Check.posted("P31L51L32L93E01");
        int[] want = {10, 12, 14, 8, 18, 20, 22, 24, 26, 28};
        for (int n = 0; n < want.length; n++) {
            check.due("price(0, " + n + ")", post.price(0, n), want[n]);
        }
        check.due("price(2, 5)", post.price(2, 5), 0);
        check.due("price(3, 10)", post.price(3, 10), WaitedPost.UNKNOWN);
        check.due("price(-1, 0)", post.price(-1, 0), WaitedPost.UNKNOWN);
        check.due("price(0, -1)", post.price(0, -1), WaitedPost.OUTSIDE);
        check.due("price(0, 10)", post.price(0, 10), WaitedPost.OUTSIDE);
        post.card(1);
        post.day();
        int[] stopped = {9, 9, 4, 12, 15, 18, 21, 24, 27, 30};
        for (int n = 0; n < stopped.length; n++) {
            check.due("with a clock price(1, " + n + ")", post.price(1, n), stopped[n]);
        }
        post.send(0);
        check.due("explained price(1, 0)", post.price(1, 0), 6);
        check.due("explained price(1, 2)", post.price(1, 2), 3);
        check.due("explained price(1, 3)", post.price(1, 3), 9);
        check.due("price(0, 0), sent", post.price(0, 0), WaitedPost.STATE);
        check.due("price(0, 10), sent", post.price(0, 10), WaitedPost.OUTSIDE);
        WaitedPost torn = Check.posted("P91L91");
        torn.tear(0);
        check.due("torn price(0, 4)", torn.price(0, 4), 16);
        check.due("torn price(0, 9)", torn.price(0, 9), 18);
        WaitedPost old = Check.posted("P01L91");
        Check.days(old, 85);
        check.due("price(0, 4)", old.price(0, 4), 196);
        check.due("price(0, 5)", old.price(0, 5), 198);
        check.due("price(0, 9)", old.price(0, 9), 198);
    }

    private static void promise13Cheapest() {
        check.promise("promise 13");
        WaitedPost post = Check.posted("P31L51L33L00L30");
        check.due("cheapest(0)", post.cheapest(0), 3);
        check.due("of like ones the least", post.cheapest(1), 0);
        check.due("cheapest(2)", post.cheapest(2), 0);
        check.due("3, 4, 5, 3", post.cheapest(3), 0);
        check.due("cheapest(4)", post.cheapest(4), WaitedPost.UNKNOWN);
        check.due("cheapest(-1)", post.cheapest(-1), WaitedPost.UNKNOWN);
        post.send(0);
        check.due("cheapest(0), sent", post.cheapest(0), WaitedPost.STATE);
        WaitedPost far = Check.posted("P91L90L91");
        check.due("9 and 18 in 9 days: 9", far.cheapest(0), 0);
        check.due("18 and 18", far.cheapest(1), 0);
        far.day();
        check.due("20 now, 18 in eight days", far.cheapest(1), 8);
        check.due("the pardon is tomorrow", Check.posted("P11L51").cheapest(0), 1);
        WaitedPost nine = Check.posted("P91L91");
        nine.card(0);
        check.due("in nine days 15", nine.cheapest(0), 9);
        nine.day();
        check.due("in eight days 15", nine.cheapest(0), 8);
    }

    private static void promise14Plan() {
        check.promise("promise 14");
        WaitedPost post = Check.posted("P91L21L51L42E01E12");
        check.due("plan(1, false)", post.plan(1, false), 4);
        check.due("plan(1, true)", post.plan(1, true), 0);
        // 4 today and 12 - 3 tomorrow, or 10 today and 6 tomorrow
        check.due("plan(3, false)", post.plan(3, false), 13);
        check.due("plan(3, true)", post.plan(3, true), 1);
        // one a day: 4, then 12 - 3, then 18 - 3
        check.due("plan(7, true)", post.plan(7, true), 12);
        check.due("plan(7, false)", post.plan(7, false), 28);
        check.due("plan(0, false)", post.plan(0, false), 0);
        check.due("plan(0, true)", post.plan(0, true), 0);
        // set {1, 2}: 10 + (15 - 3) = 22 or 12 + 12 = 24
        check.due("plan(6, false)", post.plan(6, false), 22);
        check.due("plan(6, true)", post.plan(6, true), 1);
        String before = Check.view(post);
        post.plan(7, true);
        check.due("nothing changed", Check.view(post).equals(before));
        WaitedPost two = Check.posted("P92L21L51E01");
        check.due("ahead on that day", two.plan(3, false), 11);
        check.due("both today", two.plan(3, true), 0);
        WaitedPost back = Check.posted("P92L51L21E10");
        // by number the other one is behind on that day: today 10 + 4, or 12 - 3 tomorrow
        check.due("behind on that day", back.plan(3, false), 13);
        check.due("the explained one tomorrow", back.plan(3, true), 10);
        WaitedPost half = Check.posted("P22L52L43L31");
        // 21 / 2 in two days, a widow on any day, 10 / 2 in two days
        check.due("both on the pardon", half.plan(5, false), 15);
        check.due("row of both on the pardon", half.plan(5, true), 22);
        check.due("the widow today", half.plan(7, true), 202);
    }

    private static void promise14PlanOfEqualOnes() {
        WaitedPost widows = Check.posted("P92L13L23L33L43L53L63");
        check.due("widows pay nothing", widows.plan(63, false), 0);
        check.due("the least row", widows.plan(63, true), 1122);
        check.due("the least row of four", widows.plan(58, true), 11);
        WaitedPost one = Check.posted("P91L13L23L33L43L53");
        check.due("the least row, room 1", one.plan(15, true), 123);
        check.due("the least row of 1 and 3", one.plan(10, true), 1);
    }

    private static void promise14PlanRoom() {
        WaitedPost one = Check.posted("P91L10L10L10L10L10");
        check.due("four by one a day", one.plan(15, false), 1 + 2 + 3 + 4);
        check.due("five by one a day", one.plan(31, false), WaitedPost.NONE);
        check.due("row of five by one a day", one.plan(31, true), WaitedPost.NONE);
        one.send(4);
        check.due("today is full", one.plan(1, true), 1);
        check.due("three from tomorrow", one.plan(7, false), 2 + 3 + 4);
        check.due("three from tomorrow, row", one.plan(7, true), 123);
        check.due("four from tomorrow", one.plan(15, false), WaitedPost.NONE);
        one.day();
        check.due("four again", one.plan(15, true), 123);
        WaitedPost two = Check.posted("P92L10L10L10L10L10L10");
        two.send(0);
        check.due("one more today", two.plan(62, true), 1122);
        check.due("one more today pays", two.plan(62, false), 1 + 2 + 2 + 3 + 3);
        WaitedPost three = Check.posted("P93L11L11L11L11L11L11");
        check.due("three a day", three.plan(63, false), 3 * 2 + 3 * 4);
        check.due("three a day, row", three.plan(63, true), 111);
        WaitedPost clock = Check.posted("P91L91L91");
        clock.card(0);
        check.due("the other one first", clock.plan(3, true), 10);
        check.due("a clock stands", clock.plan(3, false), 36);
    }

    private static void promise14PlanRefuses() {
        WaitedPost post = Check.posted("P92L21L51");
        check.due("plan(4, false)", post.plan(4, false), WaitedPost.OUTSIDE);
        check.due("plan(-1, true)", post.plan(-1, true), WaitedPost.OUTSIDE);
        check.due("plan(least, true)", post.plan(Integer.MIN_VALUE, true), WaitedPost.OUTSIDE);
        post.send(0);
        check.due("plan(1, true)", post.plan(1, true), WaitedPost.STATE);
        check.due("plan(3, false)", post.plan(3, false), WaitedPost.STATE);
        check.due("plan(5, false)", post.plan(5, false), WaitedPost.OUTSIDE);
        check.due("plan(2, false)", post.plan(2, false), 10);
        WaitedPost none = new WaitedPost();
        check.due("no letters: plan(0, false)", none.plan(0, false), 0);
        check.due("no letters: plan(1, false)", none.plan(1, false), WaitedPost.OUTSIDE);
    }

    private static void promise15Order() {
        check.promise("promise 15");
        check.due("none explains", Check.posted("P01L00L00L00").order(), 123);
        check.due("the last one first", Check.posted("P01L00L00L00E20").order(), 231);
        check.due("a chain", Check.posted("P01L00L00L00E21E10").order(), 321);
        check.due("six", Check.posted("P01L00L00L00L00L00L00E50E03").order(), 235614);
        check.due("a ring of two", Check.posted("P01L00L00E01E10").order(), WaitedPost.NONE);
        check.due("a ring of three", Check.posted("P01L00L00L00L00E01E12E20").order(), WaitedPost.NONE);
        check.due("nothing is left", new WaitedPost().order(), WaitedPost.NONE);
        WaitedPost ring = Check.posted("P01L00L00L00E01E10E20");
        ring.send(1);
        check.due("the ring is cut", ring.order(), 31);
        ring.day();
        ring.send(2);
        check.due("one is left", ring.order(), 1);
        ring.day();
        ring.send(0);
        check.due("all are sent", ring.order(), WaitedPost.NONE);
    }

    private static void promise16Judge() {
        check.promise("promise 16");
        WaitedPost post = Check.posted("P91L21L51L42E01E12");
        check.due("judge(1, 1)", post.judge(1, 1), WaitedPost.NONE);
        check.due("judge(1, 4)", post.judge(1, 4), 0);
        check.due("judge(1, 7)", post.judge(1, 7), 0);
        check.due("judge(1, 8)", post.judge(1, 8), 0);
        check.due("judge(1, 9)", post.judge(1, 9), WaitedPost.NONE);
        check.due("judge(1, 0)", post.judge(1, 0), WaitedPost.NONE);
        check.due("judge(6, 102030)", post.judge(6, 102030), WaitedPost.NONE);
        check.due("days first", post.judge(6, 3), WaitedPost.NONE);
        check.due("sent twice", post.judge(3, 101), 2);
        check.due("no room", post.judge(2, 12), 1);
        check.due("the first of two", post.judge(6, 940201), 1);
        check.due("room again", post.judge(4, 1902), WaitedPost.NONE);
        check.due("the last one", post.judge(6, 102092), 5);
        check.due("judge(0, 0)", post.judge(0, 0), WaitedPost.OUTSIDE);
        check.due("judge(7, 0)", post.judge(7, 0), WaitedPost.OUTSIDE);
        check.due("judge(-1, 0)", post.judge(-1, 0), WaitedPost.OUTSIDE);
        check.due("judge(1, -1)", post.judge(1, -1), WaitedPost.OUTSIDE);
        check.due("judge(1, 10)", post.judge(1, 10), WaitedPost.OUTSIDE);
        check.due("judge(5, 100000)", post.judge(5, 100000), WaitedPost.OUTSIDE);
        check.due("judge(6, 1000000)", post.judge(6, 1000000), WaitedPost.OUTSIDE);
        check.due("judge(6, 999999)", post.judge(6, 999999), WaitedPost.NONE);
        post.send(0);
        String before = Check.view(post);
        check.due("sent and full", post.judge(2, 91), 1);
        check.due("full today", post.judge(2, 20), 0);
        check.due("tomorrow", post.judge(2, 2), WaitedPost.NONE);
        check.due("nothing changed", Check.view(post).equals(before));
    }

    private static void promise17Cost() {
        check.promise("promise 17");
        WaitedPost post = Check.posted("P21L21L51L42E01E12");
        check.due("cost(1, 1)", post.cost(1, 1), 4);
        check.due("cost(1, 0)", post.cost(1, 0), 0);
        check.due("cost(1, 9)", post.cost(1, 9), 0);
        check.due("cost(1, 7)", post.cost(1, 7), 0);
        check.due("4 + 9 + (18 - 3) / 2", post.cost(6, 102030), 4 + 9 + 7);
        check.due("what can not be is left out", post.cost(6, 112180), 4);
        check.due("two unknown ones are left out, then a day and 9", post.cost(5, 14702), 4 + 9);
        check.due("on the pardon", post.cost(3, 3), 9);
        check.due("cost(0, 0)", post.cost(0, 0), WaitedPost.OUTSIDE);
        check.due("cost(7, 0)", post.cost(7, 0), WaitedPost.OUTSIDE);
        check.due("cost(2, 100)", post.cost(2, 100), WaitedPost.OUTSIDE);
        check.due("cost(2, -1)", post.cost(2, -1), WaitedPost.OUTSIDE);
        post.send(0);
        String before = Check.view(post);
        check.due("only what is paid by the row", post.cost(3, 102), 9);
        check.due("full today", post.cost(3, 222), 0);
        check.due("nothing changed", Check.view(post).equals(before));
    }
}
