/** Each boundary that the document names of slots, counts and the calls of one object: promises 25 to 27, and 1. */
public final class SlotEdgesTest {
    private static final Check check = new Check();
    private static final int UNKNOWN = WaitedPost.UNKNOWN;
    private static final int STATE = WaitedPost.STATE;

    public static void main(String[] args) {
        promise25Slots();
        promise25TheDay();
        promise25WhatIsKept();
        promise26NoneWereKept();
        promise26RowIsEmpty();
        promise26AsTheyWereKept();
        promise26SeedAndText();
        promise27Counts();
        promise27PricesOfAll();
        calls512();
        check.end();
    }

    private static void promise25Slots() {
        check.sentence(25, "SLOTS 0 to 1");
        WaitedPost post = new WaitedPost();
        check.due("keep(-1)", post.keep(-1), UNKNOWN);
        check.due("again(-1)", post.again(-1), UNKNOWN);
        check.due("keep(2)", post.keep(2), UNKNOWN);
        check.due("again(2)", post.again(2), UNKNOWN);
        check.due("again(0)", post.again(0), STATE);
        check.due("again(1)", post.again(1), STATE);
        check.due("keep(0)", post.keep(0), 0);
        check.due("keep(1)", post.keep(1), 0);
        check.due("again(0) then", post.again(0), 0);
        check.due("again(1) then", post.again(1), 0);
    }

    private static void promise25TheDay() {
        check.sentence(25, "They are kept: THE DAY.");
        WaitedPost post = Check.posted("P91L50");
        check.due("keep(0) on DAY 0", post.keep(0), 0);
        post.day();
        check.due("keep(1) on DAY 1", post.keep(1), 1);
        Check.days(post, 99);
        check.due("keep(0) on DAY 100", post.keep(0), 100);
        check.due("again(1)", post.again(1), 1);
        check.due("again(0)", post.again(0), 100);
    }

    private static void promise25WhatIsKept() {
        check.sentence(25, "keep what has WAITED, was SENT (how many this DAY, too), TORN, clocks, what is paid, THE DAY");
        WaitedPost post = Check.posted("P93L51L62L70L80E01");
        post.card(2);
        post.day();
        post.send(0);
        post.send(1);
        post.tear(3);
        String kept = Check.view(post);
        post.keep(0);
        post.send(2);
        Check.days(post, 2);
        post.card(3);
        post.again(0);
        check.due("WAITED", post.letter(2, 0), 7);
        check.due("WAITED, torn", post.letter(3, 0), 0);
        check.due("SENT", post.count(5), 3);
        check.due("how many this DAY", post.count(6), 2);
        check.due("TORN", post.letter(3, 4), 1);
        check.due("clock that stands", post.letter(2, 5), 2);
        check.due("clock that does not", post.letter(3, 5), 0);
        check.due("paid", post.count(7), 12 + 18);
        check.due("THE DAY", post.count(4), 1);
        check.due("all but the row", Check.view(post).equals(kept.replaceFirst("^((\\S+ ){9})\\S+ ", "$10 ")));
        check.due("room for one more", post.send(2), 7);
        check.due("not for two", post.send(3), WaitedPost.FULL);
    }

    private static void promise26NoneWereKept() {
        check.sentence(26, "STATE: none were kept.");
        for (int slot = 0; slot <= 1; slot++) {
            WaitedPost post = Check.posted("P91L50");
            check.due("again() ahead of keep()", post.again(slot), STATE);
            post.keep(slot);
            post.day();
            check.due("again() of the other slot", post.again(1 - slot), STATE);
            check.due("THE DAY stays", post.count(4), 1);
            check.due("the row stays", post.count(9), 1);
            check.due("again() behind keep()", post.again(slot), 0);
            check.due("again() twice", post.again(slot), 0);
        }
    }

    private static void promise26RowIsEmpty() {
        check.sentence(26, "(THE ROW of ACTS is empty when one goes on)");
        for (int acts : new int[] {0, 1, 14, 15}) {
            WaitedPost post = Check.posted("P91L50");
            Check.days(post, acts);
            post.keep(0);
            check.due("keep() leaves the row", post.count(9), Math.min(14, acts));
            check.due("again(0)", post.again(0), acts);
            check.due("acts", post.count(9), 0);
            check.due("undo()", post.undo(), STATE);
            check.due("THE DAY", post.count(4), acts);
            post.day();
            check.due("undo() of the next one", post.undo(), 0);
        }
    }

    private static void promise26AsTheyWereKept() {
        check.sentence(26, "They are as they were kept: THE DAY.");
        WaitedPost post = Check.posted("P92L50L60");
        post.keep(0);
        post.send(0);
        post.keep(1);
        post.day();
        check.due("again(0)", post.again(0), 0);
        check.due("not SENT", post.count(5), 0);
        check.due("again(1)", post.again(1), 0);
        check.due("SENT", post.count(5), 1);
        // what goes on does not reach into what is kept, nor does an act that is undone
        post.tear(1);
        post.undo();
        post.tear(1);
        check.due("again(1) once more", post.again(1), 0);
        check.due("not torn", post.letter(1, 4), 0);
        check.due("WAITED", post.letter(1, 0), 6);
        post.day();
        post.keep(1);
        check.due("kept anew", post.again(1), 1);
        check.due("the other slot as it was", post.again(0), 0);
    }

    private static void promise26SeedAndText() {
        check.sentence(26, "They are as they were kept");
        WaitedPost post = Check.posted("P91L50");
        post.seed(5);
        post.keep(0);
        post.seed(6);
        post.write('L');
        post.keep(1);
        check.due("again(0)", post.again(0), 0);
        check.due("THE SEED is not kept", post.seed(6), 6);
        check.due("THE TEXT is not kept", post.count(0), 7);
        check.due("what another slot keeps stays", post.again(1), 0);
        post.wipe();
        check.due("again(0) with no TEXT", post.again(0), 0);
        check.due("count(0)", post.count(0), 0);
        check.due("LETTERS", post.count(1), 1);
    }

    private static void promise27Counts() {
        check.sentence(27, "0 letters of THE TEXT, 1 LETTERS, 2 PARDON, 3 ROOM, 4 THE DAY, 5 those SENT (bits), "
            + "6 how many were SENT this DAY, 7 what was paid");
        WaitedPost post = Check.posted("P93L11L11L11L11L11L11E01E02E03E04E05E10E12E13E14");
        int[] first = {48, 6, 9, 3, 0, 0, 0, 0, 12, 0};
        for (int what = 0; what < first.length; what++) {
            check.due("count(" + what + ")", post.count(what), first[what]);
        }
        for (int letter = 5; letter >= 0; letter--) {
            if (letter == 2) {
                check.due("SENT this DAY", post.count(6), 3);
                post.day();
                check.due("SENT this DAY, the next one", post.count(6), 0);
            }
            post.send(letter);
        }
        int[] last = {48, 6, 9, 3, 1, 63, 3, 3 * 2 + 4 + 4 + 1, 0, 7};
        for (int what = 0; what < last.length; what++) {
            check.due("count(" + what + ") then", post.count(what), last[what]);
        }
    }

    private static void promise27PricesOfAll() {
        check.sentence(27, "8 PRICES of all that are not SENT, 9 ACTS in the row");
        WaitedPost post = Check.posted("P12L50L60E01");
        check.due("of two", post.count(8), 11);
        post.send(0);
        check.due("of one, explained", post.count(8), 3);
        check.due("one act", post.count(9), 1);
        post.day();
        check.due("half", post.count(8), 2);
        post.send(1);
        check.due("of none", post.count(8), 0);
        Check.days(post, 11);
        check.due("14 acts", post.count(9), 14);
        post.day();
        check.due("14 at most", post.count(9), 14);
    }

    private static void calls512() {
        check.sentence(1, "An object is used for at most 512 calls after it has been made; what later calls answer is free.");
        WaitedPost days = new WaitedPost();
        for (int call = 1; call <= 510; call++) {
            days.day();
        }
        check.due("the 511th call", days.day(), 511);
        check.due("the 512th call", days.day(), 512);
        // what it answers is free
        days.day();
        WaitedPost undone = new WaitedPost();
        for (int call = 1; call <= 498; call++) {
            undone.day();
        }
        for (int call = 499; call <= 512; call++) {
            check.due("undo() is call " + call, undone.undo(), 512 - call);
        }
    }
}
