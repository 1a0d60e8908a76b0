/** The words that the promises' tests share. */
abstract class PromiseTest {
    static final String COURT = "back 30 5;back 60 8;back 10 0;council 4 5;council 2 1;council 8 9;king 16;";

    static void sentence(int promise, String words, Runnable test) {
        Sentences.sentence(promise, words, test);
    }

    static void due(String what, long got, long want) {
        Checks.due(what, got, want);
    }

    static void same(String what, String got, String want) {
        Checks.same(what, got, want);
    }

    static void noElement(String what, Checks.Call call) {
        Checks.noElement(what, call);
    }

    static void noArgument(String what, Checks.Call call) {
        Checks.noArgument(what, call);
    }

    static int put(ThroneBacks x, String text) {
        return Checks.put(x, text);
    }

    static ThroneBacks courtOf(String text) {
        return Checks.courtOf(text);
    }

    static int court(ThroneBacks x, String text) {
        return Checks.court(x, text);
    }

    static int law(ThroneBacks x, String text) {
        return Checks.law(x, text);
    }

    static int work(ThroneBacks x, String text) {
        return Checks.work(x, text);
    }

    static int book(ThroneBacks x, String text) {
        return Checks.book(x, text);
    }

    static String stateOf(ThroneBacks x) {
        return Checks.stateOf(x);
    }

    static String allOf(ThroneBacks x) {
        return Checks.allOf(x);
    }
}
