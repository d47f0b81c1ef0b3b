/** Counts and prints what is not as due; every test of the project ends by end(). */
final class Check {
    private int wrong = 0;
    private int asked = 0;
    private String promise = "";

    void promise(String name) {
        promise = name;
    }

    void due(String call, long got, long want) {
        asked++;
        if (got != want) {
            wrong++;
            System.out.println(promise + ": " + call + " answered " + got + ", due is " + want);
        }
    }

    void due(String call, boolean holds) {
        due(call, holds ? 1 : 0, 1);
    }

    /** Asks all that count and letter tell, so that a refused call can be seen to change nothing. */
    static String view(WaitedPost post) {
        StringBuilder view = new StringBuilder();
        for (int what = 0; what <= 9; what++) {
            view.append(post.count(what)).append(' ');
        }
        for (int letter = 0; letter < post.count(1); letter++) {
            for (int what = 0; what <= 6; what++) {
                view.append(post.letter(letter, what)).append(' ');
            }
        }
        return view.toString();
    }

    static void tell(WaitedPost post, String text) {
        post.wipe();
        for (int i = 0; i < text.length(); i++) {
            post.write(text.charAt(i));
        }
    }

    static WaitedPost posted(String text) {
        WaitedPost post = new WaitedPost();
        tell(post, text);
        if (post.post() < 0) {
            throw new IllegalStateException("no post: " + text);
        }
        return post;
    }

    static void days(WaitedPost post, int many) {
        for (int i = 0; i < many; i++) {
            post.day();
        }
    }

    void end() {
        System.out.println(wrong == 0 ? asked + " answers are as due" : wrong + " of " + asked + " answers are not as due");
        if (wrong != 0) {
            System.exit(1);
        }
    }
}
