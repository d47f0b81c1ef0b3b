/** Promises 25 to 27: keep, again, count. */
public final class SlotsTest {
    private static final Check check = new Check();

    public static void main(String[] args) {
        promise25Keep();
        promise26Again();
        promise27Count();
        check.end();
    }

    private static void promise25Keep() {
        check.promise("promise 25");
        WaitedPost post = Check.posted("P92L51L32L43");
        check.due("keep(-1)", post.keep(-1), WaitedPost.UNKNOWN);
        check.due("keep(2)", post.keep(2), WaitedPost.UNKNOWN);
        Check.days(post, 3);
        check.due("keep(1)", post.keep(1), 3);
        check.due("the row of acts stays", post.count(9), 3);
        post.day();
        check.due("keep(0)", post.keep(0), 4);
        check.due("keep(1) anew", post.keep(1), 4);
        post.day();
        check.due("again(1)", post.again(1), 4);
    }

    private static void promise26Again() {
        check.promise("promise 26");
        WaitedPost post = Check.posted("P12L51L92L43L70E01");
        check.due("again(-1)", post.again(-1), WaitedPost.UNKNOWN);
        check.due("again(2)", post.again(2), WaitedPost.UNKNOWN);
        check.due("again(0)", post.again(0), WaitedPost.STATE);
        post.day();
        post.send(0);
        post.tear(1);
        post.card(3);
        String acts = Check.view(post);
        check.due("keep(0)", post.keep(0), 1);
        check.due("again(1)", post.again(1), WaitedPost.STATE);
        check.due("refused changes nothing", Check.view(post).equals(acts));
        post.day();
        check.due("keep(1)", post.keep(1), 2);
        post.send(1);
        post.card(2);
        Check.days(post, 5);
        check.due("again(0)", post.again(0), 1);
        check.due("undo()", post.undo(), WaitedPost.STATE);
        check.due("acts", post.count(9), 0);
        check.due("waited", post.letter(3, 0), 8);
        check.due("torn waited", post.letter(1, 0), 0);
        check.due("sent", post.count(5), 1);
        check.due("sent this day", post.count(6), 1);
        check.due("torn", post.letter(1, 4), 1);
        check.due("clock", post.letter(3, 5), 3);
        check.due("no clock", post.letter(2, 5), 0);
        check.due("paid", post.count(7), 6);
        check.due("the day", post.count(4), 1);
        post.day();
        check.due("undo()", post.undo(), 0);
        check.due("again(1)", post.again(1), 2);
        check.due("sent this day", post.count(6), 0);
        check.due("clock", post.letter(3, 5), 2);
        post.tear(3);
        check.due("again(0) once more", post.again(0), 1);
        check.due("not torn", post.letter(3, 4), 0);
        post.day();
        post.undo();
        check.due("what is kept can not be undone away", post.again(1), 2);
    }

    private static void promise27Count() {
        check.promise("promise 27");
        WaitedPost post = Check.posted("P93L51L32L43L70E01E03");
        post.write('L');
        counts(post, new int[] {22, 4, 9, 3, 0, 0, 0, 0, 10 + 9 + 0 + 7, 0});
        post.send(0);
        counts(post, new int[] {22, 4, 9, 3, 0, 1, 1, 10, 6 + 0 + 4, 1});
        post.send(2);
        counts(post, new int[] {22, 4, 9, 3, 0, 5, 2, 10, 6 + 4, 2});
        post.day();
        counts(post, new int[] {22, 4, 9, 3, 1, 5, 0, 10, 9 + 5, 3});
        post.send(1);
        counts(post, new int[] {22, 4, 9, 3, 1, 7, 1, 19, 5, 4});
        post.send(3);
        counts(post, new int[] {22, 4, 9, 3, 1, 15, 2, 24, 0, 5});
        check.due("count(-1)", post.count(-1), WaitedPost.OUTSIDE);
        check.due("count(10)", post.count(10), WaitedPost.OUTSIDE);
    }

    private static void counts(WaitedPost post, int[] want) {
        for (int what = 0; what < want.length; what++) {
            check.due("count(" + what + ")", post.count(what), want[what]);
        }
    }
}
