/** Promises 27 to 33: moths and what is told of them. */
final class MothSentences extends SentenceTest {
    static void test() {
        addMoth();
        newMoths();
        moveMoth();
        mothCount();
        lampOfMoth();
        strikesOf();
        probationOf();
        isMember();
    }

    private static void addMoth() {
        sentence(27, "Adds a moth, which circles a lamp.", () -> {
            LampCooperative x = withLamps(1, 1, 1, 1, 1, 1, 1, 1);
            x.addMoth(7);
            x.addMoth(0);
            x.addMoth(7);
            due("moths", x.lampOfMoth(0) + " " + x.lampOfMoth(1) + " " + x.lampOfMoth(2), "7 0 7");
        });
        lampNumbers(27, "addMoth", LampCooperative::addMoth);
        sentence(27, "Returns the number of the moth.", () -> {
            LampCooperative x = supplied();
            for (int moth = 0; moth < 6; moth++) {
                due("addMoth", x.addMoth(moth % 2), moth);
            }
            x.undo();
            due("addMoth after an undo", x.addMoth(0), 5);
            x.moveMoth(4, -1);
            x.burnNight();
            x.burnNight();
            due("addMoth after five left", x.addMoth(0), 1);
        });
        sentence(27, "Throws `IllegalStateException` if there are 6 moths", () -> {
            refusesNumbers(SentenceTest::fullHouse, "the seventh addMoth", STATE, LampCooperative::addMoth, 0, 7);
            LampCooperative x = oneAlwaysBurning();
            for (int moth = 0; moth < 6; moth++) {
                x.addMoth(moth == 5 ? 0 : 1);
            }
            x.burnNight();
            refused(x, "the seventh addMoth before one leaves", STATE, () -> x.addMoth(0));
            x.burnNight();
            due("the sixth addMoth after one left", x.addMoth(0), 5);
        });
        sentence(27, FIRST_EXCEPTION, () ->
            refusesNumbers(SentenceTest::fullHouse, "the seventh addMoth", INDEX, LampCooperative::addMoth,
                    outside(0, 7)));
    }

    /** Lamp 0 has oil and wick, lamp 1 has none. */
    private static LampCooperative oneAlwaysBurning() {
        LampCooperative x = oneLamp(60, 9, 1);
        x.addLamp(1, 1);
        return x;
    }

    private static void newMoths() {
        sentence(27, "There are at most 6 moths, numbered from 0 in the order in which they came.", () -> {
            LampCooperative x = withLamps(1, 1, 1, 1, 1, 1, 1, 1);
            for (int moth = 0; moth < 6; moth++) {
                due("addMoth", x.addMoth(7 - moth), moth);
            }
            refused(x, "the seventh addMoth", STATE, () -> x.addMoth(0));
            due("mothCount()", x.mothCount(), 6);
            for (int moth = 0; moth < 6; moth++) {
                due("lampOfMoth(" + moth + ")", x.lampOfMoth(moth), 7 - moth);
            }
        });
        sentence(27, "It is on probation at first, with 3 nights left and without strikes;", () -> {
            LampCooperative x = oneAlwaysBurning();
            for (int moth = 0; moth < 6; moth++) {
                x.addMoth(0);
            }
            x.burnNight();
            x.burnNight();
            due("mothCount() when all have left", x.mothCount(), 0);
            for (int moth = 0; moth < 6; moth++) {
                x.addMoth(0);
                due("probationOf(" + moth + ")", x.probationOf(moth), 3);
                due("strikesOf(" + moth + ")", x.strikesOf(moth), 0);
                due("isMember(" + moth + ")", x.isMember(moth), false);
            }
        });
        sentence(33, "later it can become a member.", () -> {
            LampCooperative x = withLamps(1);
            for (int moth = 0; moth < 6; moth++) {
                x.addMoth(0);
            }
            for (int night = 0; night < 3; night++) {
                x.burnNight();
            }
            for (int moth = 0; moth < 6; moth++) {
                due("isMember(" + moth + ")", x.isMember(moth), true);
            }
        });
        sentence(29, "When a moth leaves, the numbers of the later moths decrease by 1.", () -> {
            for (int leaving = 0; leaving < 6; leaving++) {
                LampCooperative x = oneAlwaysBurning();
                for (int lamp = 2; lamp < 8; lamp++) {
                    x.addLamp(lamp % 4, 1);
                }
                for (int moth = 0; moth < 6; moth++) {
                    x.addMoth(moth == leaving ? 0 : moth + 1);
                }
                x.burnNight();
                x.burnNight();
                due("mothCount() without " + leaving, x.mothCount(), 5);
                for (int moth = 0; moth < 5; moth++) {
                    due("lampOfMoth(" + moth + ")", x.lampOfMoth(moth), moth < leaving ? moth + 1 : moth + 2);
                    due("probationOf(" + moth + ")", x.probationOf(moth), 1);
                    due("strikesOf(" + moth + ")", x.strikesOf(moth), 0);
                }
                refused(x, "lampOfMoth(5)", INDEX, () -> x.lampOfMoth(5));
            }
        });
    }

    private static void moveMoth() {
        sentence(28, "Lets a moth circle another lamp.", () -> {
            LampCooperative x = withLamps(1, 1, 1, 1, 1, 1, 1, 1);
            for (int moth = 0; moth < 6; moth++) {
                x.addMoth(1);
            }
            x.moveMoth(0, 7);
            x.moveMoth(5, 0);
            due("lampOfMoth(0)", x.lampOfMoth(0), 7);
            due("lampOfMoth(4)", x.lampOfMoth(4), 1);
            due("lampOfMoth(5)", x.lampOfMoth(5), 0);
        });
        mothNumbers(28, "the moth in moveMoth", (x, moth) -> x.moveMoth(moth, 0));
        sentence(28, "`lamp`: number of the lamp, or -1 for no lamp", () -> {
            for (int lamp = -1; lamp < 8; lamp++) {
                LampCooperative x = fullHouse();
                x.moveMoth(0, lamp);
                due("lampOfMoth(0)", x.lampOfMoth(0), lamp);
            }
        });
        sentence(28, "Returns the number of the lamp that it circled before, -1 for no lamp.", () -> {
            LampCooperative x = fullHouse();
            due("moveMoth(5, -1)", x.moveMoth(5, -1), 5);
            due("moveMoth(5, -1) again", x.moveMoth(5, -1), -1);
            due("moveMoth(5, 7)", x.moveMoth(5, 7), -1);
            due("moveMoth(5, 0)", x.moveMoth(5, 0), 7);
            x.removeLamp(0);
            due("moveMoth(0, 0) after the removal of its lamp", x.moveMoth(0, 0), -1);
        });
        String no = "Throws `IndexOutOfBoundsException` if there is no such moth, "
                + "or the lamp is neither -1 nor the number of a lamp";
        sentence(28, no, () -> noSuchMoth("moveMoth(.., -1)", (x, moth) -> x.moveMoth(moth, -1)));
        sentence(28, no, () -> {
            NumberedCall call = (x, lamp) -> x.moveMoth(0, lamp);
            refusesNumbers(SentenceTest::lived, "the lamp in moveMoth", INDEX, call, outside(-1, 1));
            refusesNumbers(SentenceTest::fullHouse, "the lamp in moveMoth", INDEX, call, outside(-1, 7));
            refusesNumbers(MothSentences::mothWithoutLamps, "the lamp in moveMoth", INDEX, call, outside(-1, -1));
        });
        sentence(28, "A moth can be moved to the lamp that it circles already.", () -> {
            LampCooperative x = supplied();
            x.addMoth(1);
            due("moveMoth(0, 1)", x.moveMoth(0, 1), 1);
            due("lampOfMoth(0)", x.lampOfMoth(0), 1);
            due("undo()", x.undo(), 7);
            due("mothCount()", x.mothCount(), 1);
        });
    }

    private static LampCooperative mothWithoutLamps() {
        LampCooperative x = withLamps(1);
        x.addMoth(0);
        x.removeLamp(0);
        return x;
    }

    private static void mothCount() {
        sentence(29, "Returns the number of moths.", () -> {
            LampCooperative x = supplied();
            for (int moths = 0; moths < 6; moths++) {
                due("mothCount()", x.mothCount(), moths);
                x.addMoth(1);
            }
            due("mothCount() of all", x.mothCount(), 6);
            refused(x, "the seventh addMoth", STATE, () -> x.addMoth(1));
            due("mothCount() after a refused addMoth", x.mothCount(), 6);
            x.burnNight();
            due("mothCount() with a strike for each", x.mothCount(), 6);
            x.burnNight();
            due("mothCount() when all have left", x.mothCount(), 0);
        });
    }

    private static void lampOfMoth() {
        mothNumbers(30, "lampOfMoth", LampCooperative::lampOfMoth);
        sentence(30, "Returns the lamp that a moth circles.", () -> {
            LampCooperative x = fullHouse();
            x.moveMoth(5, 7);
            due("lampOfMoth(0)", x.lampOfMoth(0), 0);
            due("lampOfMoth(5)", x.lampOfMoth(5), 7);
        });
        sentence(30, "Returns the number of the lamp, -1 for no lamp.", () -> {
            LampCooperative x = fullHouse();
            x.moveMoth(0, -1);
            due("lampOfMoth(0)", x.lampOfMoth(0), -1);
            x.removeLamp(5);
            due("lampOfMoth(5)", x.lampOfMoth(5), -1);
            due("lampOfMoth(4)", x.lampOfMoth(4), 4);
        });
        sentence(30, "A moth circles one lamp or no lamp.", () -> {
            LampCooperative x = mothWithoutLamps();
            due("lampOfMoth(0)", x.lampOfMoth(0), -1);
            x.addLamp(0, 1);
            due("lampOfMoth(0) beside a new lamp", x.lampOfMoth(0), -1);
            x.moveMoth(0, 0);
            due("lampOfMoth(0)", x.lampOfMoth(0), 0);
            x.removeLamp(0);
            due("lampOfMoth(0) without any lamp", x.lampOfMoth(0), -1);
        });
    }

    private static void strikesOf() {
        mothNumbers(31, "strikesOf", LampCooperative::strikesOf);
        sentence(31, "Returns the strikes of a moth.", () -> {
            LampCooperative x = oneAlwaysBurning();
            x.addMoth(0);
            x.addMoth(1);
            x.burnNight();
            due("strikesOf(0)", x.strikesOf(0), 1);
            due("strikesOf(1)", x.strikesOf(1), 0);
        });
        sentence(31, "Returns the number of strikes, 0 or 1.", () -> {
            LampCooperative x = oneAlwaysBurning();
            x.addMoth(0);
            due("strikesOf(0)", x.strikesOf(0), 0);
            x.burnNight();
            due("strikesOf(0)", x.strikesOf(0), 1);
            x.moveMoth(0, 1);
            x.burnNight();
            due("strikesOf(0) after a night without a strike", x.strikesOf(0), 1);
            x.moveMoth(0, 0);
            x.burnNight();
            refused(x, "strikesOf(0) after the second", INDEX, () -> x.strikesOf(0));
        });
        sentence(31, "Returns the number of strikes, 0 or 1.", () -> {
            LampCooperative x = oneAlwaysBurning();
            x.addMoth(0);
            x.burnNight();
            x.moveMoth(0, 1);
            for (int night = 0; night < 3; night++) {
                x.burnNight();
            }
            due("isMember(0)", x.isMember(0), true);
            due("strikesOf(0) of a member that had a strike", x.strikesOf(0), 1);
            x.moveMoth(0, 0);
            x.burnNight();
            due("strikesOf(0) of a member at a burning lamp", x.strikesOf(0), 1);
        });
    }

    private static void probationOf() {
        mothNumbers(32, "probationOf", LampCooperative::probationOf);
        sentence(32, "Returns the nights of probation that a moth has left.", () -> {
            LampCooperative x = oneAlwaysBurning();
            x.addMoth(0);
            x.addMoth(1);
            x.burnNight();
            due("probationOf(0) at a burning lamp", x.probationOf(0), 3);
            due("probationOf(1) at a dark lamp", x.probationOf(1), 2);
        });
        sentence(32, "Returns the number of nights, 0 if it is a member.", () -> {
            LampCooperative x = withLamps(1);
            x.addMoth(0);
            for (int left = 3; left > 0; left--) {
                due("probationOf(0)", x.probationOf(0), left);
                x.burnNight();
            }
            due("probationOf(0) of a member", x.probationOf(0), 0);
            x.burnNight();
            due("probationOf(0) a night later", x.probationOf(0), 0);
        });
    }

    private static void isMember() {
        mothNumbers(33, "isMember", LampCooperative::isMember);
        sentence(33, "Returns whether a moth is a member.", () -> {
            LampCooperative x = withLamps(1);
            x.addMoth(0);
            for (int night = 0; night < 3; night++) {
                due("isMember(0) after " + night + " nights", x.isMember(0), false);
                x.burnNight();
            }
            due("isMember(0) after 3 nights", x.isMember(0), true);
        });
        sentence(33, "Returns whether it is a member.", () -> {
            LampCooperative x = members(1);
            x.addMoth(0);
            due("isMember(0)", x.isMember(0), true);
            due("isMember(1)", x.isMember(1), false);
            x.burnNight();
            due("isMember(0) a night later", x.isMember(0), true);
        });
    }
}
