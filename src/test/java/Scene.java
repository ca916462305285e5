import java.util.ArrayList;
import java.util.List;
import java.util.function.Supplier;

/**
 * A state that can be made again and again. Of two objects in it one gets a call that is to be refused, the other
 * none; they must answer alike at once, and also after some more calls, as an object keeps days of painting, tins
 * and days of orders that no question tells at once.
 */
final class Scene {
    interface Call {
        int on(TideTablePainters x);
    }

    private interface Future {
        String of(TideTablePainters x);
    }

    private static final List<Future> FUTURES = List.of(
            x -> "",
            x -> told(() -> x.passDays(1)),
            x -> told(() -> x.passDays(3)),
            x -> told(() -> x.passDays(6)),
            x -> told(() -> x.passDays(7)),
            x -> told(() -> x.passDays(9)),
            x -> told(() -> x.passDays(10)),
            x -> told(() -> x.addPier(1, 2, 3, 2, 1)) + told(() -> x.report(5, 0, 33)) + told(() -> x.observe(0, 7)),
            x -> told(() -> x.paint(1)) + told(() -> x.giveUpJob()) + told(() -> x.paint(50)),
            Scene::ordersCancelled,
            Scene::muchPaint);

    private final Supplier<TideTablePainters> maker;
    private final List<String> untouched = new ArrayList<>();

    Scene(Supplier<TideTablePainters> maker) {
        this.maker = maker;
        for (Future future : FUTURES) {
            TideTablePainters x = maker.get();
            untouched.add(future.of(x) + Snapshot.of(x));
        }
    }

    TideTablePainters fresh() {
        return maker.get();
    }

    /** The call is allowed here, and this is its answer. */
    void answers(String what, int due, Call call) {
        TideTablePainters x = fresh();
        try {
            Checks.same(what, call.on(x), due);
        } catch (RuntimeException e) {
            Checks.yes(what + " threw " + e, false);
        }
    }

    /** The call is allowed here, whatever it answers. */
    void allows(String what, Call call) {
        TideTablePainters x = fresh();
        String answer = told(() -> call.on(x));
        Checks.no(what + " threw" + answer, answer.contains("Exception"));
    }

    /** The call throws this exception here and changes nothing, neither now nor for later. */
    void refuses(String what, Class<? extends RuntimeException> due, Call call) {
        for (int i = 0; i < FUTURES.size(); i++) {
            TideTablePainters x = fresh();
            Checks.fails(what, due, () -> call.on(x));
            String after = FUTURES.get(i).of(x) + Snapshot.of(x);
            Checks.yes(what + ", refused, changes nothing (future " + i + ")", after.equals(untouched.get(i)));
        }
    }

    /** The call is allowed here and leaves everything as it was. */
    void leaves(String what, int due, Call call) {
        for (int i = 0; i < FUTURES.size(); i++) {
            TideTablePainters x = fresh();
            Checks.same(what, call.on(x), due);
            String after = FUTURES.get(i).of(x) + Snapshot.of(x);
            Checks.yes(what + " changes nothing (future " + i + ")", after.equals(untouched.get(i)));
        }
    }

    private interface Question {
        int ask();
    }

    private static String told(Question question) {
        try {
            return " " + question.ask();
        } catch (RuntimeException e) {
            return " " + e.getClass().getSimpleName();
        }
    }

    private static String ordersCancelled(TideTablePainters x) {
        StringBuilder told = new StringBuilder();
        for (int i = 0; i < 6; i++) {
            int pier = i;
            told.append(told(() -> x.cancelOrder(pier)));
        }
        return told.toString();
    }

    private static String muchPaint(TideTablePainters x) {
        StringBuilder told = new StringBuilder();
        for (int i = 0; i < 12; i++) {
            int millilitres = 60 + i;
            told.append(told(() -> x.deliverTin(0, millilitres))).append(told(() -> x.deliverTin(1, millilitres)));
        }
        told.append(told(() -> x.paint(50)));
        for (int i = 0; i < 6; i++) {
            int pier = i;
            told.append(told(() -> x.touchUp(pier)));
        }
        return told.toString();
    }
}
