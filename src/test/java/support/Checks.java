/** What the project's tests share: due answers, due exceptions, and texts put on a tape. */
final class Checks {
    interface Call {
        long answer();
    }

    static final long NO_ELEMENT = -1001;
    static final long NO_ARGUMENT = -1002;

    private static int wrong;
    private static int asked;

    private Checks() {
    }

    static void due(String what, long got, long want) {
        asked++;
        if (got != want) {
            wrong++;
            System.out.println(what + " answered " + got + ", due is " + want);
        }
    }

    static long outcome(Call call) {
        try {
            return call.answer();
        } catch (java.util.NoSuchElementException e) {
            return NO_ELEMENT;
        } catch (IllegalArgumentException e) {
            return NO_ARGUMENT;
        }
    }

    static void noElement(String what, Call call) {
        due(what, outcome(call), NO_ELEMENT);
    }

    static void noArgument(String what, Call call) {
        due(what, outcome(call), NO_ARGUMENT);
    }

    static int put(ThroneBacks x, String text) {
        int[] numbers = new int[5];
        for (int from = 0; from < text.length(); from += 20) {
            for (int i = 0; i < 5; i++) {
                numbers[i] = 0;
                for (int j = 0; j < 4; j++) {
                    int at = from + 4 * i + j;
                    numbers[i] = numbers[i] << 8 | (at < text.length() ? text.charAt(at) & 255 : 0);
                }
            }
            x.feed(numbers[0], numbers[1], numbers[2], numbers[3], numbers[4]);
        }
        return text.length();
    }

    static ThroneBacks courtOf(String text) {
        ThroneBacks x = new ThroneBacks();
        if (court(x, text) < 0) {
            wrong++;
            System.out.println("no court: " + text);
        }
        return x;
    }

    static int court(ThroneBacks x, String text) {
        return x.court(put(x, text));
    }

    static int law(ThroneBacks x, String text) {
        return x.law(put(x, text));
    }

    static int work(ThroneBacks x, String text) {
        return x.work(put(x, text));
    }

    static int book(ThroneBacks x, String text) {
        return x.book(put(x, text));
    }

    static void finish() {
        System.out.println(asked + " answers asked, " + wrong + " not as due");
        if (wrong != 0 || asked == 0) {
            System.exit(1);
        }
    }
}
