import java.util.HashSet;
import java.util.Set;
import java.util.function.Supplier;
import java.util.function.ToLongFunction;

/** Counts and prints what is not as due; every test of the project ends by end(). */
final class Check {
    private int wrong = 0;
    private int asked = 0;
    private String promise = "";
    private final Set<String> sentences = new HashSet<>();

    void promise(String name) {
        promise = name;
    }

    /** Names the promise and the document's words by which the next answers are due; each such pair has one test. */
    void sentence(int number, String words) {
        promise = "promise " + number + ", '" + words + "'";
        due("one test of its own", sentences.add(promise));
    }

    void due(String call, long got, long want) {
        asked++;
        if (got != want) {
            wrong++;
            System.out.println(promise + ": " + call + " answered " + got + ", due is " + want);
        }
    }

    void due(String call, boolean holds) {
        due(call, holds ? 1 : 0, 1);
    }

    /** The call answers want, and no later call can tell that it was asked. */
    void changesNothing(String call, Supplier<WaitedPost> made, ToLongFunction<WaitedPost> asked, long want) {
        due(call, asked.applyAsLong(made.get()), want);
        due(call + " changes nothing", Later.tells(made).equals(Later.tells(Later.behind(made, asked))));
    }

    void fraction(String call, int above, int below, int wantAbove, int wantBelow) {
        due(call + " above", above, wantAbove);
        due(call + " below", below, wantBelow);
    }

    /** Asks all that count and letter tell. */
    static String view(WaitedPost post) {
        StringBuilder view = new StringBuilder();
        for (int what = 0; what <= 9; what++) {
            view.append(post.count(what)).append(' ');
        }
        for (int letter = 0; letter < post.count(1); letter++) {
            for (int what = 0; what <= 6; what++) {
                view.append(post.letter(letter, what)).append(' ');
            }
        }
        return view.toString();
    }

    static void tell(WaitedPost post, String text) {
        post.wipe();
        for (int i = 0; i < text.length(); i++) {
            post.write(text.charAt(i));
        }
    }

    static WaitedPost told(String text) {
        WaitedPost post = new WaitedPost();
        tell(post, text);
        return post;
    }

    static WaitedPost posted(String text) {
        WaitedPost post = told(text);
        if (post.post() < 0) {
            throw new IllegalStateException("no post: " + text);
        }
        return post;
    }

    static void days(WaitedPost post, int many) {
        for (int i = 0; i < many; i++) {
            post.day();
        }
    }

    void end() {
        System.out.println(wrong == 0 ? asked + " answers are as due" : wrong + " of " + asked + " answers are not as due");
        if (wrong != 0) {
            System.exit(1);
        }
    }
}
