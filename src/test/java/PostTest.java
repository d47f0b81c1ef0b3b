/** Promises 1 to 6: the new object, the text, the post, what is told of a letter. */
public final class PostTest {
    private static final Check check = new Check();
    private static final String SIX = "L00L00L00L00L00L00";

    public static void main(String[] args) {
        promise1NewObject();
        promise2Write();
        promise3Wipe();
        promise4Fault();
        promise5Post();
        promise5RefusedChangesNothing();
        promise6Letter();
        check.end();
    }

    private static void promise1NewObject() {
        check.promise("promise 1");
        WaitedPost post = new WaitedPost();
        int[] counts = {0, 0, 0, 1, 0, 0, 0, 0, 0, 0};
        for (int what = 0; what < counts.length; what++) {
            check.due("count(" + what + ")", post.count(what), counts[what]);
        }
        check.due("fault()", post.fault(), 0);
        check.due("undo()", post.undo(), WaitedPost.STATE);
        check.due("again(0)", post.again(0), WaitedPost.STATE);
        check.due("again(1)", post.again(1), WaitedPost.STATE);
        check.due("letter(0, 0)", post.letter(0, 0), WaitedPost.UNKNOWN);
        check.due("order()", post.order(), WaitedPost.NONE);
        check.due("plan(0, false)", post.plan(0, false), 0);
        check.due("seed(1)", post.seed(1), 0);
        check.due("day()", post.day(), 1);
    }

    private static void promise2Write() {
        check.promise("promise 2");
        WaitedPost post = new WaitedPost();
        check.due("write(-1)", post.write(-1), WaitedPost.OUTSIDE);
        check.due("write(256)", post.write(256), WaitedPost.OUTSIDE);
        check.due("write(least)", post.write(Integer.MIN_VALUE), WaitedPost.OUTSIDE);
        check.due("count(0)", post.count(0), 0);
        check.due("write(0)", post.write(0), 1);
        check.due("write(255)", post.write(255), 2);
        for (int length = 3; length <= 48; length++) {
            check.due("write('P')", post.write('P'), length);
        }
        check.due("write('P') into 48", post.write('P'), WaitedPost.FULL);
        check.due("write(256) into 48", post.write(256), WaitedPost.OUTSIDE);
        check.due("count(0)", post.count(0), 48);
        check.due("wipe()", post.wipe(), 48);
        check.due("write('P')", post.write('P'), 1);
    }

    private static void promise3Wipe() {
        check.promise("promise 3");
        WaitedPost post = new WaitedPost();
        check.due("wipe()", post.wipe(), 0);
        Check.tell(post, "P01L11");
        post.post();
        check.due("wipe()", post.wipe(), 6);
        check.due("wipe() again", post.wipe(), 0);
        check.due("count(0)", post.count(0), 0);
        check.due("fault()", post.fault(), 0);
        check.due("the post stays", post.count(1), 1);
    }

    private static void promise4Fault() {
        check.promise("promise 4");
        fault("", 0);
        fault("p", 0);
        fault("XP01", 0);
        fault("P", 1);
        fault("PA", 1);
        fault("P/", 1);
        fault("P:", 1);
        fault("P9", 2);
        fault("P90", 2);
        fault("P94", 2);
        fault("P9X", 2);
        fault("P91", WaitedPost.NONE);
        fault("P03", WaitedPost.NONE);
        fault("P03P", 3);
        fault("P03l", 3);
        fault("P01L", 4);
        fault("P01L/0", 4);
        fault("P01L:0", 4);
        fault("P01L9", 5);
        fault("P01L94", 5);
        fault("P01L9L", 5);
        fault("P01L93", WaitedPost.NONE);
        fault("P01L00", WaitedPost.NONE);
        faultsOfPairs();
        fault("P01" + SIX, WaitedPost.NONE);
        fault("P01" + SIX + "L", 21);
        fault("P01" + SIX + "E50E05E01E10E12E21E23E32E34", WaitedPost.NONE);
        fault("P01" + SIX + "E50E05E01E10E12E21E23E32E32", 47);
        fault("P01" + SIX + "E50E05E01E10E12E21E23E32E3", 47);
        fault("P01" + SIX + "E01E02E03E04E05E0", 37);
        faultChangesNothing();
    }

    private static void faultsOfPairs() {
        fault("P01E", 3);
        fault("P01L00E", 6);
        fault("P01L00E00", 6);
        fault("P01L00L00E", 10);
        fault("P01L00L00E2", 10);
        fault("P01L00L00EX", 10);
        fault("P01L00L00E0", 11);
        fault("P01L00L00E00", 11);
        fault("P01L00L00E02", 11);
        fault("P01L00L00E0X", 11);
        fault("P01L00L00E01", WaitedPost.NONE);
        fault("P01L00L00E10E", 13);
        fault("P01L00L00E10E1", 13);
        fault("P01L00L00E01E0", 13);
        fault("P01L00L00E01E1", 14);
        fault("P01L00L00E01E11", 14);
        fault("P01L00L00E01E10", WaitedPost.NONE);
        fault("P01L00L00E01E10E", 15);
        fault("P01L00L00E01E10L00E", 19);
        fault("P01L00L00E01E10L00E0", 20);
        fault("P01L00L00E01E10L00E01", 20);
        fault("P01L00L00E01E10L00E02", WaitedPost.NONE);
        fault("P01L00L00L00E01E01", 17);
        fault("P01L00L00L00E01E02E0", 19);
        fault("P01L00E01L00", 6);
    }

    private static void fault(String text, int want) {
        WaitedPost post = new WaitedPost();
        Check.tell(post, text);
        check.due("fault() of " + text, post.fault(), want);
        check.due("fault() again of " + text, post.fault(), want);
        check.due("post() of " + text, (post.post() >= 0) == (want == WaitedPost.NONE));
    }

    private static void faultChangesNothing() {
        WaitedPost post = Check.posted("P51L91L42E01");
        post.send(0);
        Check.tell(post, "P02L11");
        String before = Check.view(post);
        post.fault();
        check.due("fault() changes nothing", Check.view(post).equals(before));
    }

    private static void promise5Post() {
        check.promise("promise 5");
        WaitedPost post = new WaitedPost();
        Check.tell(post, "P32L51L32L43E01E12");
        post.seed(77);
        check.due("post()", post.post(), 3);
        check.due("the text stays", post.count(0), 18);
        check.due("letters", post.count(1), 3);
        check.due("pardon", post.count(2), 3);
        check.due("room", post.count(3), 2);
        post.send(0);
        post.tear(1);
        post.card(2);
        post.keep(0);
        post.keep(1);
        post.day();
        check.due("post() again", post.post(), 3);
        check.due("again(0)", post.again(0), WaitedPost.STATE);
        check.due("again(1)", post.again(1), WaitedPost.STATE);
        check.due("undo()", post.undo(), WaitedPost.STATE);
        check.due("all anew", Check.view(post).equals(Check.view(Check.posted("P32L51L32L43E01E12"))));
        check.due("the seed stays", post.seed(0), 77);
        post.send(0);
        post.post();
        check.due("none sent this day", post.count(6), 0);
        Check.tell(post, "P91");
        check.due("post() without letters", post.post(), 0);
        check.due("letter(0, 0)", post.letter(0, 0), WaitedPost.UNKNOWN);
        Check.tell(post, "P91L00L00");
        check.due("post() of two", post.post(), 2);
        check.due("nothing explains", post.letter(1, 2), 0);
        check.due("waited anew", post.letter(0, 0), 0);
    }

    private static void promise5RefusedChangesNothing() {
        WaitedPost post = Check.posted("P51L91L42E01");
        post.send(0);
        post.keep(1);
        Check.tell(post, "P02L11E");
        String before = Check.view(post);
        check.due("post() with a fault", post.post(), WaitedPost.STATE);
        check.due("nothing changed", Check.view(post).equals(before));
        check.due("what was kept stays", post.again(1), 0);
        post.wipe();
        check.due("post() of nothing", post.post(), WaitedPost.STATE);
        check.due("letters stay", post.count(1), 2);
    }

    private static void promise6Letter() {
        check.promise("promise 6");
        WaitedPost post = Check.posted("P92L51L32L43L90E01E21E31E12");
        int[][] want = {{5, 1, 0, 0, 0, 0, 10}, {3, 2, 13, 0, 0, 0, 9}, {4, 3, 2, 0, 0, 0, 0}, {9, 0, 0, 0, 0, 0, 9}};
        for (int letter = 0; letter < want.length; letter++) {
            for (int what = 0; what <= 6; what++) {
                check.due("letter(" + letter + ", " + what + ")", post.letter(letter, what), want[letter][what]);
            }
        }
        post.send(0);
        post.tear(3);
        post.card(1);
        post.day();
        int[][] then = {{5, 1, 0, 1, 0, 0, -9}, {3, 2, 13, 0, 0, 2, 6}, {5, 3, 2, 0, 0, 0, 0}, {1, 0, 0, 0, 1, 0, 2}};
        for (int letter = 0; letter < then.length; letter++) {
            for (int what = 0; what <= 6; what++) {
                check.due("then letter(" + letter + ", " + what + ")", post.letter(letter, what), then[letter][what]);
            }
        }
        check.due("letter(4, 7)", post.letter(4, 7), WaitedPost.UNKNOWN);
        check.due("letter(-1, 0)", post.letter(-1, 0), WaitedPost.UNKNOWN);
        check.due("letter(0, 7)", post.letter(0, 7), WaitedPost.OUTSIDE);
        check.due("letter(0, -1)", post.letter(0, -1), WaitedPost.OUTSIDE);
    }
}
