import java.util.NoSuchElementException;
import java.util.function.IntFunction;
import java.util.function.Supplier;

/** What the tests share: answers compared, refused calls, texts, and cooperatives to start from. */
abstract class CooperativeTest {
    static final Class<?> INDEX = IndexOutOfBoundsException.class;
    static final Class<?> ARGUMENT = IllegalArgumentException.class;
    static final Class<?> STATE = IllegalStateException.class;
    static final Class<?> NO_ELEMENT = NoSuchElementException.class;
    static final Class<?> ARITHMETIC = ArithmeticException.class;

    private static int wrong = 0;
    private static String subject = "";

    static void tell(String fault) {
        wrong++;
        System.out.println(subject + ": " + fault);
    }

    static void due(String call, Object got, Object want) {
        if (!want.equals(got)) {
            tell(call + " answered " + got + ", due is " + want);
        }
    }

    /** Exactly the class that the document names: a subclass would come from the machine. */
    static void dueThrow(String call, Class<?> kind, Supplier<Object> supplier) {
        try {
            tell(call + " answered " + supplier.get() + ", due is " + kind.getSimpleName());
        } catch (RuntimeException e) {
            due(call + " throws", e.getClass(), kind);
        }
    }

    static void refused(LampCooperative x, String call, Class<?> kind, Supplier<Object> supplier) {
        String before = view(x);
        dueThrow(call, kind, supplier);
        due("the state after " + call, view(x), before);
    }

    /** One look at the state before all the numbers and one after them: an object has 512 calls and no more. */
    static void refusedAll(LampCooperative x, String call, Class<?> kind, IntFunction<Object> asked, int... numbers) {
        String before = view(x);
        for (int number : numbers) {
            dueThrow(call + " with " + number, kind, () -> asked.apply(number));
        }
        due("the state after " + call, view(x), before);
    }

    static void check(String name, Runnable test) {
        subject = name;
        try {
            test.run();
        } catch (RuntimeException e) {
            tell("stopped by " + e);
            e.printStackTrace(System.out);
        }
    }

    static void finish(String praise) {
        System.out.println(wrong == 0 ? praise : wrong + " answers are wrong");
        if (wrong != 0) {
            System.exit(1);
        }
    }

    /** Everything that the queries tell. */
    static String view(LampCooperative x) {
        return stateView(x) + " line " + line(x);
    }

    static String stateView(LampCooperative x) {
        StringBuilder all = new StringBuilder();
        int lamps = x.lampCount();
        for (int lamp = 0; lamp < lamps; lamp++) {
            all.append(lamp).append(": street ").append(x.streetOf(lamp));
            all.append(" shares ").append(x.sharesOf(lamp)).append(" brightness ").append(x.brightnessOf(lamp));
            all.append(" on ").append(x.isOn(lamp)).append(" oil ").append(x.oilOf(lamp));
            all.append(" wick ").append(x.wickOf(lamp)).append(" balance ").append(x.balanceOf(lamp)).append('\n');
        }
        int moths = x.mothCount();
        for (int moth = 0; moth < moths; moth++) {
            all.append("moth ").append(moth).append(" at ").append(x.lampOfMoth(moth));
            all.append(" strikes ").append(x.strikesOf(moth)).append(" probation ").append(x.probationOf(moth));
            all.append(" member ").append(x.isMember(moth)).append('\n');
        }
        all.append("reserve ").append(x.reserve()).append(" pool ").append(x.pool());
        all.append(" treasury ").append(x.treasury()).append(" nights ").append(x.nightCount());
        return all.toString();
    }

    static String line(LampCooperative x) {
        StringBuilder line = new StringBuilder();
        for (int index = 0; index < 40; index++) {
            try {
                line.append(x.lineAt(index));
            } catch (IndexOutOfBoundsException e) {
                return line.toString();
            }
        }
        return line.toString();
    }

    static void type(LampCooperative x, String text) {
        for (int index = 0; index < text.length(); index++) {
            due("type", x.type(text.charAt(index)), index + 1);
        }
    }

    static int run(LampCooperative x, String text) {
        type(x, text);
        return x.execute();
    }

    static void malformed(LampCooperative x, String text, int position) {
        type(x, text);
        refused(x, "execute of \"" + text + "\"", ARGUMENT, x::execute);
        due("errorPosition of \"" + text + "\"", x.errorPosition(), position);
        emptyBuffer(x, text);
    }

    static void fails(LampCooperative x, String text, int command) {
        type(x, text);
        refused(x, "execute of \"" + text + "\"", STATE, x::execute);
        due("failedCommand of \"" + text + "\"", x.failedCommand(), command);
        emptyBuffer(x, text);
    }

    /** Only the first character of a text that begins afresh has the number 1; a malformed text empties the buffer. */
    private static void emptyBuffer(LampCooperative x, String text) {
        due("the buffer after \"" + text + "\"", x.type('n'), 1);
        dueThrow("execute of \"n\"", ARGUMENT, x::execute);
    }

    static LampCooperative withLamps(int... shares) {
        LampCooperative x = new LampCooperative();
        for (int lamp = 0; lamp < shares.length; lamp++) {
            x.addLamp(lamp % 4, shares[lamp]);
        }
        return x;
    }

    /** Two lamps in streets 0 and 1, each with 40 units of oil and 9 of wick; 32 units of wick are in the pool. */
    static LampCooperative supplied() {
        LampCooperative x = withLamps(1, 1);
        x.deliverOil(80);
        x.donateWicks(50);
        x.giveWick(0, 9);
        x.giveWick(1, 9);
        return x;
    }

    static int undoable(LampCooperative x) {
        int undone = 0;
        while (undone < 20) {
            try {
                x.undo();
                undone++;
            } catch (IllegalStateException e) {
                return undone;
            }
        }
        return undone;
    }
}
