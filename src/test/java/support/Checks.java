/** What the project's tests share: due answers, due exceptions, texts put on a tape, and all that can be seen. */
final class Checks {
    interface Call {
        long answer();
    }

    static final long NO_ELEMENT = -1001;
    static final long NO_ARGUMENT = -1002;

    private static String under = "";
    private static int wrong;
    private static int asked;

    private Checks() {
    }

    /** What is wrong from now on is told behind these words. */
    static void begin(String words) {
        under = words;
    }

    static int asked() {
        return asked;
    }

    static void due(String what, long got, long want) {
        asked++;
        if (got != want) {
            wrong++;
            System.out.println(under + what + " answered " + got + ", due is " + want);
        }
    }

    static void same(String what, String got, String want) {
        asked++;
        if (!got.equals(want)) {
            wrong++;
            System.out.println(under + what + " is " + got + ", due is " + want);
        }
    }

    static long outcome(Call call) {
        try {
            return call.answer();
        } catch (java.util.NoSuchElementException e) {
            return NO_ELEMENT;
        } catch (IllegalArgumentException e) {
            return NO_ARGUMENT;
        }
    }

    static void noElement(String what, Call call) {
        due(what, outcome(call), NO_ELEMENT);
    }

    static void noArgument(String what, Call call) {
        due(what, outcome(call), NO_ARGUMENT);
    }

    static int put(ThroneBacks x, String text) {
        int[] numbers = new int[5];
        for (int from = 0; from < text.length(); from += 20) {
            for (int i = 0; i < 5; i++) {
                numbers[i] = 0;
                for (int j = 0; j < 4; j++) {
                    int at = from + 4 * i + j;
                    numbers[i] = numbers[i] << 8 | (at < text.length() ? text.charAt(at) & 255 : 0);
                }
            }
            x.feed(numbers[0], numbers[1], numbers[2], numbers[3], numbers[4]);
        }
        return text.length();
    }

    static ThroneBacks courtOf(String text) {
        ThroneBacks x = new ThroneBacks();
        if (court(x, text) < 0) {
            wrong++;
            System.out.println(under + "no court: " + text);
        }
        return x;
    }

    static int court(ThroneBacks x, String text) {
        return x.court(put(x, text));
    }

    static int law(ThroneBacks x, String text) {
        return x.law(put(x, text));
    }

    static int work(ThroneBacks x, String text) {
        return x.work(put(x, text));
    }

    static int book(ThroneBacks x, String text) {
        return x.book(put(x, text));
    }

    /** All that WORK changes, as it can be seen. */
    static String stateOf(ThroneBacks x) {
        StringBuilder seen = new StringBuilder();
        for (int what : new int[] {3, 4, 5, 6, 7, 8, 11}) {
            seen.append(x.told(what)).append(' ');
        }
        for (int back = 0; back < x.told(0); back++) {
            for (int what = 2; what < 7; what++) {
                seen.append(x.back(back, what)).append(' ');
            }
            for (int council = 0; council < x.told(1); council++) {
                seen.append(x.hearing(back, council)).append(' ');
            }
        }
        for (int council = 0; council < x.told(1); council++) {
            seen.append(x.council(council, 2)).append(' ');
        }
        return seen.toString();
    }

    /** All that can be seen but the tape, its fault and the refusals: court, law, book, state, images, works. */
    static String allOf(ThroneBacks x) {
        StringBuilder seen = new StringBuilder(stateOf(x));
        for (int what : new int[] {0, 1, 2, 9, 10}) {
            seen.append(x.told(what)).append(' ');
        }
        for (int back = 0; back < x.told(0); back++) {
            seen.append(x.back(back, 0)).append(' ').append(x.back(back, 1)).append(' ');
            for (int council = 0; council < x.told(1); council++) {
                seen.append(x.load(back, council)).append(' ');
            }
        }
        for (int council = 0; council < x.told(1); council++) {
            seen.append(x.council(council, 0)).append(' ').append(x.council(council, 1)).append(' ');
        }
        seen.append(x.fits(0)).append(' ').append(x.fits(1)).append(' ');
        return seen.append(x.count(0)).append(' ').append(x.count(2)).toString();
    }

    static void finish() {
        System.out.println(asked + " answers asked, " + wrong + " not as due");
        if (wrong != 0 || asked == 0) {
            System.exit(1);
        }
    }
}
