/** Promises 16 to 37: that asking changes nothing. */
final class AskedSentences extends PromiseTest {
    static void tell() {
        for (int i = 16; i <= 37; i++) {
            int promise = i;
            sentence(promise, "Asked, nothing stays changed", () -> {
                ThroneBacks x = courtOf(COURT);
                law(x, "weight-held+lie+tired/9+day+knows");
                x.image();
                work(x, "sit 0 0;sit 2 2;sit 1 0;tell 1 0;hold 3;hold 3;day;");
                book(x, "0 16;2 70;");
                put(x, "day;");
                String ahead = allOf(x);
                for (int time = 0; time < 3; time++) {
                    asked(x, promise, time);
                    same("all, time " + time, allOf(x), ahead);
                }
                due("the tape", x.count(1), 20);
                due("undo is as it was", x.undo() * 10 + x.told(7), 0);
            });
        }
    }

    /** Three unlike askings of each promise. */
    private static long asked(ThroneBacks x, int promise, int time) {
        switch (promise) {
            case 16: return x.ahead(9 * time, time % 2);
            case 17: return x.could(time);
            case 18: return x.roster(time * 3);
            case 19: return x.gives(time, 7);
            case 20: return x.word(time);
            case 21: return x.ease(7, 30 * time);
            case 22: return x.fits(time % 2);
            case 23: return x.look(time % 2);
            case 24: return x.quorum(30 * time + 1, time % 2);
            case 25: return x.lies(4, time, 5, time % 2);
            case 26: return x.kneel(time, time, time);
            case 27: return x.balm(time, 7, 20);
            case 28: return x.weariest(time % 2);
            case 29: return x.heaviest(time, time % 2);
            case 30: return x.listeners(time);
            case 31: return x.ready(time, time);
            case 32: return x.sure(time, time % 2);
            case 33: return x.bearers(time);
            case 34: return x.rumour(time, time % 2);
            case 35: return x.lied(time, time % 2);
            case 36: return x.reign(time, 16, 20 * time + 1, time);
            default: return x.span(time, 3, 16, 20, time, time);
        }
    }
}
