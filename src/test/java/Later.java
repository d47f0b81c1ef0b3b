import java.util.function.Supplier;
import java.util.function.ToLongFunction;

/**
 * All that later calls can tell of an object, as one text: where two texts are alike, no later call tells the objects
 * apart. Each part asks an object made anew, as the asking changes it and takes of its 512 calls.
 */
final class Later {
    private Later() {
    }

    /** Makes the object and asks it one call more. */
    static Supplier<WaitedPost> behind(Supplier<WaitedPost> made, ToLongFunction<WaitedPost> asked) {
        return () -> {
            WaitedPost post = made.get();
            asked.applyAsLong(post);
            return post;
        };
    }

    static String tells(Supplier<WaitedPost> made) {
        StringBuilder all = new StringBuilder();
        all.append(Check.view(made.get())).append('\n');
        all.append(text(made.get())).append('\n');
        all.append(undone(made)).append('\n');
        all.append(slot(made.get(), 0)).append('\n');
        all.append(slot(made.get(), 1)).append('\n');
        all.append(seed(made.get())).append('\n');
        all.append(asked(made.get())).append('\n');
        return all.append(goneOn(made.get())).toString();
    }

    /** THE TEXT is told by its FAULT, by the POST it makes, and by how long it is. */
    private static String text(WaitedPost post) {
        return post.fault() + " " + post.post() + " " + Check.view(post) + post.wipe();
    }

    private static String undone(Supplier<WaitedPost> made) {
        StringBuilder all = new StringBuilder();
        WaitedPost post = made.get();
        int letters = post.count(1);
        int many = post.count(9) + 1;
        for (int i = 0; i < many; i++) {
            all.append(post.undo()).append(": ");
            for (int what = 4; what <= 9; what++) {
                all.append(post.count(what)).append(' ');
            }
            for (int letter = 0; letter < letters; letter++) {
                all.append(post.letter(letter, 0)).append(' ').append(post.letter(letter, 4)).append(' ');
                all.append(post.letter(letter, 5)).append(' ');
            }
        }
        return all.toString();
    }

    private static String slot(WaitedPost post, int slot) {
        return post.again(slot) + " " + Check.view(post) + post.undo();
    }

    private static String seed(WaitedPost post) {
        return post.years(30) + " " + post.seed(0) + " " + post.years(30) + " " + post.seed(0);
    }

    private static String asked(WaitedPost post) {
        StringBuilder all = new StringBuilder();
        int letters = post.count(1);
        int left = (1 << letters) - 1 & ~post.count(5);
        all.append(post.order()).append(' ').append(post.plan(left, false)).append(' ').append(post.plan(left, true));
        all.append(' ').append(post.judge(6, 102030)).append(' ').append(post.cost(6, 102030)).append(' ');
        for (int letter = 0; letter < letters; letter++) {
            for (int n = 0; n <= 9; n++) {
                all.append(post.price(letter, n)).append(' ');
            }
            all.append(post.cheapest(letter)).append(' ').append(post.waits(letter, 6)).append(' ');
            all.append(post.who(letter, 6, 0)).append(' ').append(post.lost(letter, 6, 3, true)).append(' ');
            all.append(post.share(letter, true)).append(' ').append(post.rests(letter, 0, 1)).append('\n');
        }
        return all.toString();
    }

    private static String goneOn(WaitedPost post) {
        StringBuilder all = new StringBuilder();
        int letters = post.count(1);
        for (int day = 0; day < 4; day++) {
            for (int letter = 0; letter < letters; letter++) {
                all.append(post.send(letter)).append(' ');
            }
            all.append(post.day()).append(' ');
        }
        return all.append(Check.view(post)).toString();
    }
}
