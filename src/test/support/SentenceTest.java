import java.nio.file.Path;
import java.util.function.Supplier;

/** Tests of single sentences of the document, each with the promise that it belongs to or shapes. */
abstract class SentenceTest extends CooperativeTest {
    static final Document DOCUMENT = new Document(Path.of("../shared/DOC.md"));
    static final String NO_SUCH_LAMP = "Throws `IndexOutOfBoundsException` if there is no such lamp";
    static final String NO_SUCH_MOTH = "Throws `IndexOutOfBoundsException` if there is no such moth";
    static final String NO_SUCH_STREET = "Throws `IndexOutOfBoundsException` if there is no such street";
    static final String FIRST_EXCEPTION =
            "If several exceptions apply, the one that is documented first is thrown.";

    interface Call {
        Object on(LampCooperative x);
    }

    interface NumberedCall {
        Object on(LampCooperative x, int number);
    }

    static void sentence(int promise, String quote, Runnable test) {
        check("promise " + promise + ", \"" + quote + "\"", () -> {
            if (!DOCUMENT.says(promise, quote)) {
                tell("the document does not say this");
            }
            test.run();
        });
    }

    static int[] outside(int lowest, int highest) {
        return new int[] {lowest - 1, highest + 1, Integer.MIN_VALUE, Integer.MAX_VALUE};
    }

    /** The call is refused, and from then on the object answers as its twin of which nothing was asked. */
    static void refusedAlike(Supplier<LampCooperative> maker, String call, Class<?> kind, Call asked) {
        LampCooperative x = maker.get();
        dueThrow(call, kind, () -> asked.on(x));
        due("what follows after the refused " + call, aftermath(x), aftermath(maker.get()));
    }

    static void refusesNumbers(Supplier<LampCooperative> maker, String call, Class<?> kind, NumberedCall asked,
            int... numbers) {
        for (int number : numbers) {
            refusedAlike(maker, call + " of " + number, kind, x -> asked.on(x, number));
        }
    }

    /** All that an object can still tell: its state, what it kept of texts, what lies before it, and its buffer. */
    private static String aftermath(LampCooperative x) {
        StringBuilder all = new StringBuilder(view(x));
        all.append('\n').append(outcome(x::errorPosition)).append('\n').append(outcome(x::failedCommand));
        all.append(future(x));
        return all.append('\n').append(outcome(() -> x.type('n'))).toString();
    }

    /** What all the undos lead to, and the snapshot. */
    static String future(LampCooperative x) {
        StringBuilder all = new StringBuilder();
        for (int undo = 0; undo < 9; undo++) {
            all.append('\n').append(outcome(x::undo)).append(' ').append(x.lampCount()).append(' ');
            all.append(x.totalShares()).append(' ').append(x.reserve()).append(' ').append(x.pool()).append(' ');
            all.append(x.treasury()).append(' ').append(x.nightCount()).append(' ').append(x.mothCount());
        }
        all.append('\n').append(stateView(x)).append('\n').append(outcome(x::restore));
        return all.append('\n').append(stateView(x)).toString();
    }

    static Object outcome(Supplier<Object> supplier) {
        try {
            return supplier.get();
        } catch (RuntimeException e) {
            return e.getClass();
        }
    }

    /** The parameter "lamp" of a call: each number that a lamp has is taken, and no other. */
    static void lampNumbers(int promise, String call, NumberedCall asked) {
        sentence(promise, "`lamp`: number of the lamp", () -> {
            for (int lamp = 0; lamp < 8; lamp++) {
                asked.on(eightLamps(), lamp);
            }
        });
        noSuchLamp(promise, call, asked);
    }

    static void noSuchLamp(int promise, String call, NumberedCall asked) {
        sentence(promise, NO_SUCH_LAMP, () -> {
            refusesNumbers(LampCooperative::new, call, INDEX, asked, outside(0, -1));
            refusesNumbers(SentenceTest::lived, call, INDEX, asked, outside(0, 1));
            refusesNumbers(SentenceTest::eightLamps, call, INDEX, asked, outside(0, 7));
            refusesNumbers(SentenceTest::oneRemoved, call, INDEX, asked, 7);
            refusesNumbers(SentenceTest::oneTakenBack, call, INDEX, asked, 2);
            refusesNumbers(SentenceTest::restoredToNone, call, INDEX, asked, 0);
        });
    }

    static void mothNumbers(int promise, String call, NumberedCall asked) {
        sentence(promise, "`moth`: number of the moth", () -> {
            for (int moth = 0; moth < 6; moth++) {
                asked.on(fullHouse(), moth);
            }
        });
        sentence(promise, NO_SUCH_MOTH, () -> noSuchMoth(call, asked));
    }

    static void noSuchMoth(String call, NumberedCall asked) {
        refusesNumbers(LampCooperative::new, call, INDEX, asked, outside(0, -1));
        refusesNumbers(SentenceTest::lived, call, INDEX, asked, outside(0, 1));
        refusesNumbers(SentenceTest::fullHouse, call, INDEX, asked, outside(0, 5));
        refusesNumbers(SentenceTest::oneMothLeft, call, INDEX, asked, 1);
    }

    static void streetNumbers(int promise, String call, NumberedCall asked) {
        sentence(promise, "`street`: the street", () -> {
            for (int street = 0; street < 4; street++) {
                asked.on(new LampCooperative(), street);
                asked.on(eightLamps(), street);
            }
        });
        sentence(promise, NO_SUCH_STREET, () -> {
            refusesNumbers(LampCooperative::new, call, INDEX, asked, outside(0, 3));
            refusesNumbers(SentenceTest::eightLamps, call, INDEX, asked, outside(0, 3));
        });
    }

    /** Two lamps and two moths with a past: undos, a snapshot, a line, a begun text and two texts that went wrong. */
    static LampCooperative lived() {
        LampCooperative x = supplied();
        x.addMoth(0);
        x.addMoth(1);
        x.moveMoth(1, -1);
        type(x, "night;");
        outcome(x::execute);
        type(x, "night;on 5");
        outcome(x::execute);
        x.save();
        x.burnNight();
        x.payDividend();
        x.switchOff(1);
        x.writeLamp(1);
        type(x, "nigh");
        return x;
    }

    /** Each lamp has oil, wick and coins, and room for more of each; so have the reserve and the pool. */
    static LampCooperative eightLamps() {
        LampCooperative x = withLamps(1);
        x.deliverOil(30);
        x.removeLamp(0);
        for (int lamp = 0; lamp < 8; lamp++) {
            x.addLamp(lamp % 4, 9 - lamp);
        }
        for (int night = 0; night < 4; night++) {
            x.burnNight();
        }
        x.payDividend();
        x.deliverOil(176);
        x.donateWicks(50);
        for (int lamp = 0; lamp < 8; lamp++) {
            x.giveWick(lamp, lamp + 1);
        }
        return x;
    }

    static LampCooperative fullHouse() {
        LampCooperative x = eightLamps();
        for (int moth = 0; moth < 6; moth++) {
            x.addMoth(moth);
        }
        return x;
    }

    private static LampCooperative oneRemoved() {
        LampCooperative x = eightLamps();
        x.removeLamp(3);
        return x;
    }

    private static LampCooperative oneTakenBack() {
        LampCooperative x = lived();
        x.addLamp(2, 2);
        x.undo();
        return x;
    }

    private static LampCooperative restoredToNone() {
        LampCooperative x = new LampCooperative();
        x.save();
        x.addLamp(0, 1);
        x.restore();
        return x;
    }

    /** Of two moths the first was at a burning lamp twice. */
    private static LampCooperative oneMothLeft() {
        LampCooperative x = supplied();
        x.addMoth(0);
        x.addMoth(1);
        x.moveMoth(1, -1);
        x.burnNight();
        x.burnNight();
        return x;
    }

    /** One lamp with so much oil, wick and brightness. */
    static LampCooperative oneLamp(int oil, int wick, int brightness) {
        LampCooperative x = withLamps(1);
        if (oil > 0) {
            x.deliverOil(oil);
        }
        if (wick > 0) {
            x.donateWicks(wick);
            x.giveWick(0, wick);
        }
        x.setBrightness(0, brightness);
        return x;
    }

    /** A pool of so many units, and so many lamps without wick. */
    static LampCooperative pooled(int units, int lamps) {
        LampCooperative x = new LampCooperative();
        for (int lamp = 0; lamp < lamps; lamp++) {
            x.addLamp(lamp % 4, 1);
        }
        donate(x, units);
        return x;
    }

    private static void donate(LampCooperative x, int units) {
        for (int left = units; left > 0; left -= 50) {
            x.donateWicks(Math.min(left, 50));
        }
    }

    /** Two lamps, the first with so much wick, and a pool of so many units. */
    static LampCooperative holding(int wick, int pool) {
        LampCooperative x = pooled(wick, 2);
        x.giveWick(0, wick);
        donate(x, pool);
        return x;
    }

    /** One lamp with 12 coins for each night, and a reserve. */
    static LampCooperative buyer(int reserve, int oil, int nights) {
        LampCooperative x = withLamps(1);
        if (reserve > 0) {
            x.deliverOil(reserve);
            x.removeLamp(0);
            x.addLamp(0, 1);
        }
        if (oil > 0) {
            x.deliverOil(oil);
        }
        for (int night = 0; night < nights; night++) {
            x.burnNight();
        }
        if (nights > 0) {
            x.payDividend();
        }
        return x;
    }

    /** One lamp and so many members that circle it; the lamp has no oil and no wick. */
    static LampCooperative members(int count) {
        LampCooperative x = withLamps(1);
        for (int moth = 0; moth < count; moth++) {
            x.addMoth(0);
        }
        for (int night = 0; night < 3; night++) {
            x.burnNight();
        }
        return x;
    }
}
