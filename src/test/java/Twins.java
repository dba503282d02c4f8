import java.util.function.Consumer;

/** Objects made alike: what a call did to one of them shows beside another that was not called. */
final class Twins {
    private final Due due;
    private final String name;
    private final Consumer<RoutesByTries> making;

    Twins(Due due, String name, Consumer<RoutesByTries> making) {
        this.due = due;
        this.name = name;
        this.making = making;
    }

    /** The call answers the refusal, which is counted once, and nothing else is changed. */
    void refuse(int number, String call, int... a) {
        compare(Calls.refusal(call, number), number, call, a);
    }

    /** The call answers so, changes nothing and counts nothing. */
    void answer(long want, String call, int... a) {
        compare(want, 0, call, a);
    }

    /** Whatever the call answers, it changes nothing and counts nothing. */
    void leave(String call, int... a) {
        compare(Calls.call(made(), call, a), 0, call, a);
    }

    /** The text is no TABLE: the FAULT is answered, the letters are no more, all else is as it was. */
    void told(int fault, String text) {
        RoutesByTries x = made();
        due.is(name + ": table of " + text, Due.tell(x, text), fault);
        due.refusals(name + ", behind " + text, x, 0, 0, 0, 0, 0, 0);
        due.same("behind " + name + ": table of " + text, shown(x), shown(made()));
    }

    private RoutesByTries made() {
        RoutesByTries x = new RoutesByTries();
        making.accept(x);
        return x;
    }

    private void compare(long want, int refused, String call, int... a) {
        RoutesByTries x = made();
        RoutesByTries y = made();
        String told = name + ": " + Calls.told(call, a);
        due.is(told, Calls.call(x, call, a), want);
        for (int i = 1; i <= 6; i++) {
            int more = x.count(10 + i) - y.count(10 + i);
            due.is(told + ", how many more refusals -" + i, more, i == -refused ? 1 : 0);
        }
        due.same("behind " + told, shown(x), shown(y));
    }

    /** All that shows of an object, which is spent behind it: what there is, the row, letters, the image. */
    static String shown(RoutesByTries x) {
        StringBuilder told = new StringBuilder();
        showRoutes(x, told);
        told.append("\nrow so till ").append(x.judge(0));
        told.append("\ntable ").append(x.table());
        showRoutes(x, told);
        told.append("\non ").append(x.on());
        showRoutes(x, told);
        return told.toString();
    }

    private static void showRoutes(RoutesByTries x, StringBuilder told) {
        told.append("\ncounts");
        for (int i = 0; i <= 6; i++) {
            told.append(' ').append(x.count(i));
        }
        int there = x.count(1);
        for (int route = 0; route < 10; route++) {
            if ((there >> route & 1) != 0) {
                showRoute(x, route, told);
            }
        }
        told.append("\nbrought");
        for (int verb = 0; verb < 4; verb++) {
            told.append(' ').append(x.matched(verb)).append(' ').append(x.mean(verb, 0));
        }
        told.append(' ').append(x.lots(200, 1, 0)).append(' ').append(x.lots(200, 1, 1));
        // Behind all else: a KIND that is told could mend what a call left behind.
        told.append("\nkinds");
        for (int router = 0; router < 3; router++) {
            int old = x.kind(router, 0, 0);
            x.kind(router, old / 10, old % 10);
            told.append(' ').append(old);
        }
    }

    private static void showRoute(RoutesByTries x, int route, StringBuilder told) {
        told.append("\nroute ").append(route).append(':');
        for (int what = 0; what <= 2; what++) {
            told.append(' ').append(x.route(route, what));
        }
        told.append(" segments");
        int many = x.route(route, 3);
        for (int i = 0; i < many; i++) {
            told.append(' ').append(x.segment(route, i));
        }
    }
}
