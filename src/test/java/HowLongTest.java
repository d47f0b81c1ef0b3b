/** Promises 18 and 19: waits, who. */
public final class HowLongTest {
    private static final Check check = new Check();

    public static void main(String[] args) {
        promise18Waits();
        promise19Who();
        promise19WhoRefuses();
        check.end();
    }

    private static void promise18Waits() {
        check.promise("promise 18");
        WaitedPost post = Check.posted("P22L51L32L73L90E01E31");
        check.due("10 by love", post.waits(0, 10), 1 << 5);
        check.due("0 by love", post.waits(0, 0), 1);
        check.due("18 by love", post.waits(0, 18), 1 << 9);
        check.due("20 by love", post.waits(0, 20), 0);
        check.due("11 by love", post.waits(0, 11), 0);
        check.due("widow", post.waits(2, 0), 1023);
        check.due("widow paying", post.waits(2, 1), 0);
        check.due("60", post.waits(1, 60), 0);
        check.due("waits(4, 61)", post.waits(4, 61), WaitedPost.UNKNOWN);
        check.due("waits(-1, 0)", post.waits(-1, 0), WaitedPost.UNKNOWN);
        check.due("waits(0, -1)", post.waits(0, -1), WaitedPost.OUTSIDE);
        check.due("waits(0, 61)", post.waits(0, 61), WaitedPost.OUTSIDE);
        post.send(0);
        post.send(3);
        check.due("explained by two: 0 to 2", post.waits(1, 0), 7);
        check.due("explained by two: 9", post.waits(1, 9), 1 << 5);
        check.due("waits(0, 0), sent", post.waits(0, 0), WaitedPost.STATE);
        check.due("waits(0, 61), sent", post.waits(0, 61), WaitedPost.OUTSIDE);
        Check.days(post, 2);
        check.due("halves are cut: 0, 1, 2", post.waits(1, 0), 7);
        check.due("half of 3", post.waits(1, 1), 8);
        post.tear(1);
        check.due("torn, explained, half", post.waits(1, 3), 1 << 2);
        check.due("torn, explained, half: 0", post.waits(1, 0), 3);
        check.due("torn, explained, half: 24", post.waits(1, 24), 1 << 9);
        String before = Check.view(post);
        post.waits(1, 24);
        check.due("nothing changed", Check.view(post).equals(before));
    }

    private static void promise19Who() {
        check.promise("promise 19");
        WaitedPost post = Check.posted("P92L52L11L11L11L11E10E20E30");
        check.due("none of them", post.who(0, 15, 0), 1);
        check.due("in all of the none", post.who(0, 15, 1), 0);
        check.due("in none of the none", post.who(0, 15, 2), 14);
        check.due("one of three", post.who(0, 12, 0), 3);
        check.due("in all of the ones", post.who(0, 12, 1), 0);
        check.due("in none of the ones", post.who(0, 12, 2), 0);
        check.due("all three", post.who(0, 6, 0), 1);
        check.due("in all", post.who(0, 6, 1), 14);
        check.due("in none", post.who(0, 6, 2), 0);
        check.due("no such price", post.who(0, 14, 0), 0);
        check.due("no such price, in all", post.who(0, 14, 1), WaitedPost.NONE);
        check.due("no such price, in none", post.who(0, 14, 2), WaitedPost.NONE);
        check.due("none explains it", post.who(4, 2, 0), 1);
        check.due("none explains it, in all", post.who(4, 2, 1), 0);
        check.due("none explains it, in none", post.who(4, 2, 2), 0);
        post.send(1);
        check.due("by which alone", post.who(0, 15, 0), 1);
        check.due("by which alone, in none", post.who(0, 15, 2), 14);
        WaitedPost small = Check.posted("P02L12L10L10L10E10E20E30");
        // 3 / 2 by none, 0 by any other set
        check.due("halved", small.who(0, 1, 0), 1);
        check.due("0 by seven", small.who(0, 0, 0), 7);
        check.due("0 by seven, in all", small.who(0, 0, 1), 0);
        WaitedPost two = Check.posted("P92L22L10L10E10E20");
        check.due("0 by both", two.who(0, 0, 1), 6);
        check.due("not by the first letter", Check.posted("P92L10L52E01").who(1, 15, 2), 1);
        two.tear(0);
        two.day();
        check.due("torn: 6", two.who(0, 6, 2), 6);
        check.due("torn: 3", two.who(0, 3, 0), 2);
    }

    private static void promise19WhoRefuses() {
        WaitedPost post = Check.posted("P92L52L11E10");
        check.due("who(2, 61, 3)", post.who(2, 61, 3), WaitedPost.UNKNOWN);
        check.due("who(-1, 0, 0)", post.who(-1, 0, 0), WaitedPost.UNKNOWN);
        check.due("who(0, 61, 0)", post.who(0, 61, 0), WaitedPost.OUTSIDE);
        check.due("who(0, -1, 0)", post.who(0, -1, 0), WaitedPost.OUTSIDE);
        check.due("who(0, 0, -1)", post.who(0, 0, -1), WaitedPost.OUTSIDE);
        check.due("who(0, 0, 3)", post.who(0, 0, 3), WaitedPost.OUTSIDE);
        check.due("who(0, 60, 0)", post.who(0, 60, 0), 0);
        post.send(0);
        check.due("who(0, 0, 3), sent", post.who(0, 0, 3), WaitedPost.OUTSIDE);
        check.due("who(0, 0, 0), sent", post.who(0, 0, 0), WaitedPost.STATE);
    }
}
