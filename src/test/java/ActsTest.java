/** Promises 7 to 11: send, day, tear, card, undo. */
public final class ActsTest {
    private static final Check check = new Check();

    public static void main(String[] args) {
        promise7Send();
        promise7Rates();
        promise7Pardon();
        promise8Day();
        promise9Tear();
        promise10Card();
        promise11Undo();
        promise11RowOfFourteen();
        check.end();
    }

    private static void promise7Send() {
        check.promise("promise 7");
        WaitedPost post = Check.posted("P92L51L32L42L91E01E21");
        check.due("send(4)", post.send(4), WaitedPost.UNKNOWN);
        check.due("send(-1)", post.send(-1), WaitedPost.UNKNOWN);
        check.due("send(0)", post.send(0), 10);
        check.due("send(0) again", post.send(0), WaitedPost.STATE);
        check.due("letter(1, 6)", post.letter(1, 6), 6);
        check.due("send(2)", post.send(2), 12);
        check.due("letter(1, 6)", post.letter(1, 6), 3);
        String before = Check.view(post);
        check.due("send(1) without room", post.send(1), WaitedPost.FULL);
        check.due("send(0), sent ahead of full", post.send(0), WaitedPost.STATE);
        check.due("send(9), unknown ahead of full", post.send(9), WaitedPost.UNKNOWN);
        check.due("nothing changed", Check.view(post).equals(before));
        check.due("sent", post.count(5), 5);
        check.due("sent this day", post.count(6), 2);
        check.due("paid", post.count(7), 22);
        check.due("acts", post.count(9), 2);
        post.day();
        check.due("send(1) next day", post.send(1), 6);
        check.due("send(3)", post.send(3), 20);
        check.due("paid", post.count(7), 48);
        oneAndThreeADay();
    }

    private static void oneAndThreeADay() {
        WaitedPost one = Check.posted("P91L10L10");
        check.due("room 1: send(0)", one.send(0), 1);
        check.due("room 1: send(1)", one.send(1), WaitedPost.FULL);
        WaitedPost three = Check.posted("P93L10L10L10L10");
        check.due("room 3: send(3)", three.send(3), 1);
        check.due("room 3: send(1)", three.send(1), 1);
        check.due("room 3: send(0)", three.send(0), 1);
        check.due("room 3: send(2)", three.send(2), WaitedPost.FULL);
    }

    private static void promise7Rates() {
        WaitedPost post = Check.posted("P93L70L71L72L73");
        check.due("thanks", post.letter(0, 6), 7);
        check.due("love", post.letter(1, 6), 14);
        check.due("apology", post.letter(2, 6), 21);
        check.due("widow", post.letter(3, 6), 0);
        for (int letter = 0; letter < 4; letter++) {
            post.tear(letter);
        }
        Check.days(post, 5);
        check.due("torn thanks", post.letter(0, 6), 10);
        check.due("torn love", post.letter(1, 6), 20);
        check.due("torn apology", post.letter(2, 6), 30);
        check.due("torn widow", post.letter(3, 6), 0);
        WaitedPost helped = Check.posted("P93L11L00L00E10E20");
        helped.send(1);
        check.due("never below 0", helped.letter(0, 6), 0);
        helped.send(2);
        check.due("send(0) never below 0", helped.send(0), 0);
        check.due("paid", helped.count(7), 0);
    }

    private static void promise7Pardon() {
        WaitedPost post = Check.posted("P13L51L92L50E02");
        check.due("before the pardon", post.letter(0, 6), 10);
        post.day();
        check.due("half of 12", post.letter(0, 6), 6);
        check.due("half of 30", post.letter(1, 6), 15);
        check.due("half of 6", post.letter(2, 6), 3);
        check.due("send(0)", post.send(0), 6);
        check.due("half of 3, cut", post.letter(2, 6), 1);
        check.due("send(2)", post.send(2), 1);
        post.day();
        check.due("behind the pardon", post.letter(1, 6), 33);
        WaitedPost first = Check.posted("P01L91");
        check.due("on day 0", first.send(0), 9);
    }

    private static void promise8Day() {
        check.promise("promise 8");
        WaitedPost post = Check.posted("P91L51L32L42");
        post.send(0);
        post.card(1);
        check.due("day()", post.day(), 1);
        check.due("sent ones wait no more", post.letter(0, 0), 5);
        check.due("its clock stands", post.letter(1, 0), 3);
        check.due("one day less", post.letter(1, 5), 2);
        check.due("one day more", post.letter(2, 0), 5);
        check.due("none sent this day", post.count(6), 0);
        check.due("day()", post.day(), 2);
        check.due("day()", post.day(), 3);
        check.due("its clock is done", post.letter(1, 5), 0);
        check.due("it had not waited", post.letter(1, 0), 3);
        check.due("day()", post.day(), 4);
        check.due("it waits again", post.letter(1, 0), 4);
        check.due("count(4)", post.count(4), 4);
        Check.days(post, 90);
        check.due("98", post.letter(2, 0), 98);
        post.day();
        check.due("99", post.letter(2, 0), 99);
        check.due("day()", post.day(), 96);
        check.due("99 at most", post.letter(2, 0), 99);
        WaitedPost sent = Check.posted("P91L51");
        sent.card(0);
        sent.send(0);
        sent.day();
        check.due("a sent one's clock stays", sent.letter(0, 5), 3);
    }

    private static void promise9Tear() {
        check.promise("promise 9");
        WaitedPost post = Check.posted("P91L51L32");
        check.due("tear(2)", post.tear(2), WaitedPost.UNKNOWN);
        check.due("tear(-1)", post.tear(-1), WaitedPost.UNKNOWN);
        post.card(0);
        check.due("tear(0)", post.tear(0), 5);
        check.due("waited 0", post.letter(0, 0), 0);
        check.due("torn", post.letter(0, 4), 1);
        check.due("its clock stays", post.letter(0, 5), 3);
        String before = Check.view(post);
        check.due("tear(0) again", post.tear(0), WaitedPost.STATE);
        check.due("nothing changed", Check.view(post).equals(before));
        post.send(1);
        check.due("tear(1), sent", post.tear(1), WaitedPost.STATE);
        check.due("not torn", post.letter(1, 4), 0);
        check.due("acts", post.count(9), 3);
        Check.days(post, 4);
        check.due("double", post.letter(0, 6), 4);
    }

    private static void promise10Card() {
        check.promise("promise 10");
        WaitedPost post = Check.posted("P01L51L72");
        check.due("card(2)", post.card(2), WaitedPost.UNKNOWN);
        check.due("card(-1)", post.card(-1), WaitedPost.UNKNOWN);
        check.due("card(0)", post.card(0), 5);
        check.due("three days", post.letter(0, 5), 3);
        String before = Check.view(post);
        check.due("card(0) again", post.card(0), WaitedPost.STATE);
        check.due("nothing changed", Check.view(post).equals(before));
        Check.days(post, 2);
        check.due("card(0), one day left", post.card(0), WaitedPost.STATE);
        post.day();
        check.due("card(0) anew", post.card(0), 10);
        post.send(1);
        check.due("card(1), sent", post.card(1), WaitedPost.STATE);
        check.due("it waits no more", post.letter(1, 0), 10);
        check.due("acts", post.count(9), 6);
    }

    private static void promise11Undo() {
        check.promise("promise 11");
        WaitedPost post = Check.posted("P12L51L92L42E01");
        String[] views = new String[8];
        views[0] = Check.view(post);
        post.card(1);
        views[1] = Check.view(post);
        post.send(0);
        views[2] = Check.view(post);
        post.tear(1);
        views[3] = Check.view(post);
        post.day();
        views[4] = Check.view(post);
        post.send(1);
        views[5] = Check.view(post);
        for (int left = 5; left > 0; left--) {
            check.due("undo()", post.undo(), left - 1);
            check.due("as it was with " + (left - 1), Check.view(post).equals(views[left - 1]));
        }
        check.due("undo() of none", post.undo(), WaitedPost.STATE);
        check.due("nothing changed", Check.view(post).equals(views[0]));
        WaitedPost old = Check.posted("P91L90");
        Check.days(old, 90);
        old.day();
        old.undo();
        check.due("99 stays 99", old.letter(0, 0), 99);
    }

    private static void promise11RowOfFourteen() {
        WaitedPost post = Check.posted("P91L50");
        Check.days(post, 14);
        check.due("14 acts", post.count(9), 14);
        post.tear(0);
        check.due("still 14 acts", post.count(9), 14);
        post.day();
        check.due("undo()", post.undo(), 13);
        check.due("undo() of the tear", post.undo(), 12);
        check.due("not torn", post.letter(0, 4), 0);
        check.due("waited", post.letter(0, 0), 19);
        for (int left = 11; left >= 0; left--) {
            check.due("undo()", post.undo(), left);
        }
        check.due("undo(), forgotten", post.undo(), WaitedPost.STATE);
        check.due("two days are forgotten", post.count(4), 2);
        post.send(0);
        check.due("the row goes on", post.undo(), 0);
        check.due("not sent", post.letter(0, 3), 0);
    }
}
