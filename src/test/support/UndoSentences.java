import java.util.ArrayList;
import java.util.List;

/** Promises 56 to 58: undo, save and restore. */
final class UndoSentences extends SentenceTest {
    static void test() {
        undo();
        depth();
        modifications();
        noModifications();
        nothingVisible();
        notOfTheState();
        save();
        restore();
    }

    private static void undo() {
        sentence(56, "Undoes the last modification that can be undone.", () -> {
            LampCooperative x = withLamps(1);
            x.setShares(0, 5);
            x.setShares(0, 9);
            x.undo();
            due("sharesOf(0) after an undo", x.sharesOf(0), 5);
            x.undo();
            due("sharesOf(0) after two", x.sharesOf(0), 1);
            x.undo();
            due("lampCount() after three", x.lampCount(), 0);
        });
        sentence(56, "Undoes the last modification that can be undone.", () -> {
            LampCooperative x = fullHouse();
            String before = stateView(x);
            changeTheLast(x);
            for (int left = 7; left >= 0; left--) {
                due("undo()", x.undo(), left);
            }
            due("the last lamp and the last moth", stateView(x), before);
        });
        sentence(56, "Returns the number of modifications that can still be undone.", () -> {
            LampCooperative x = new LampCooperative();
            x.burnNight();
            due("undo() of the only one", x.undo(), 0);
            x.burnNight();
            x.burnNight();
            due("undo() of two", x.undo(), 1);
            x.burnNight();
            due("undo() of two again", x.undo(), 1);
            due("undo() of one", x.undo(), 0);
        });
        String none = "Throws `IllegalStateException` if there is none";
        sentence(56, none, () -> {
            refusedAlike(LampCooperative::new, "undo()", STATE, LampCooperative::undo);
            refusedAlike(() -> {
                LampCooperative x = withLamps(1);
                x.undo();
                return x;
            }, "undo() when all is undone", STATE, LampCooperative::undo);
            refusedAlike(() -> {
                LampCooperative x = lived();
                x.restore();
                return x;
            }, "undo() after restore", STATE, LampCooperative::undo);
        });
        sentence(56, none, () -> {
            LampCooperative x = new LampCooperative();
            for (int night = 0; night < 9; night++) {
                x.burnNight();
            }
            for (int left = 7; left >= 0; left--) {
                due("undo()", x.undo(), left);
            }
            refused(x, "undo() of the ninth", STATE, x::undo);
            due("nightCount()", x.nightCount(), 1);
            x.burnNight();
            due("undo() after a refused undo", x.undo(), 0);
            refused(x, "undo() of nothing", STATE, x::undo);
        });
    }

    /** Eight modifications that change all of the last lamp and the last moth of a full house. */
    private static void changeTheLast(LampCooperative x) {
        x.removeLamp(7);
        x.addLamp(0, 9);
        x.setBrightness(7, 5);
        x.switchOff(7);
        x.deliverOil(200);
        x.giveWick(7, 3);
        x.moveMoth(5, 0);
        x.burnNight();
    }

    private static void depth() {
        String eight = "The last 8 successful modifications can be undone.";
        for (int modifications = 0; modifications <= 26; modifications++) {
            int made = modifications;
            sentence(56, eight, () -> {
                LampCooperative x = new LampCooperative();
                for (int night = 0; night < made; night++) {
                    x.burnNight();
                }
                int undoable = Math.min(made, 8);
                for (int undone = 1; undone <= undoable; undone++) {
                    due("undo() " + undone + " of " + made, x.undo(), undoable - undone);
                    due("nightCount()", x.nightCount(), made - undone);
                }
                refused(x, "undo() of more", STATE, x::undo);
            });
        }
        sentence(56, eight, () -> {
            // Half of what is undone is done anew, around and around.
            LampCooperative x = new LampCooperative();
            for (int round = 0; round < 20; round++) {
                for (int night = 0; night < 8; night++) {
                    x.burnNight();
                }
                for (int left = 7; left >= 4; left--) {
                    due("undo() in round " + round, x.undo(), left);
                }
                due("nightCount() in round " + round, x.nightCount(), 4 * (round + 1));
            }
            for (int left = 3; left >= 0; left--) {
                due("undo() at the end", x.undo(), left);
            }
            due("nightCount() at the end", x.nightCount(), 76);
            refused(x, "undo() of more", STATE, x::undo);
        });
        sentence(56, eight, () -> {
            LampCooperative x = new LampCooperative();
            List<String> states = new ArrayList<>();
            for (int lamp = 0; lamp < 8; lamp++) {
                states.add(stateView(x));
                x.addLamp(lamp % 4, lamp + 1);
            }
            for (int left = 7; left >= 0; left--) {
                due("undo()", x.undo(), left);
                due("state", stateView(x), states.get(left));
            }
        });
    }

    /** Room for each modification to succeed, coins in the treasury, and a text in the buffer. */
    private static LampCooperative ready() {
        LampCooperative x = eightLamps();
        x.addMoth(0);
        x.addMoth(1);
        x.removeLamp(7);
        type(x, "night;bright 3 3");
        x.save();
        x.restore();
        return x;
    }

    private static void modifications() {
        modification("addLamp", x -> x.addLamp(2, 3));
        modification("removeLamp", x -> x.removeLamp(0));
        modification("setShares", x -> x.setShares(1, 9));
        modification("setBrightness", x -> x.setBrightness(1, 5));
        modification("switchOn", x -> x.switchOn(1));
        modification("switchOff", x -> x.switchOff(1));
        modification("deliverOil", x -> x.deliverOil(200));
        modification("buyOil", x -> x.buyOil(1, 2));
        modification("donateWicks", x -> x.donateWicks(50));
        modification("giveWick", x -> x.giveWick(1, 2));
        modification("returnWick", x -> x.returnWick(1, 2));
        modification("addMoth", x -> x.addMoth(6));
        modification("moveMoth", x -> x.moveMoth(0, -1));
        modification("proposeCap", x -> x.proposeCap(1));
        modification("burnNight", LampCooperative::burnNight);
        modification("payDividend", LampCooperative::payDividend);
        modification("execute", LampCooperative::execute);
    }

    private static void modification(String name, Call call) {
        sentence(56, "The modifications are the successful calls of addLamp, removeLamp, setShares, setBrightness, "
                + "switchOn, switchOff, deliverOil, buyOil, donateWicks, giveWick, returnWick, addMoth, moveMoth, "
                + "proposeCap, burnNight, payDividend and execute.", () -> {
            LampCooperative x = ready();
            String before = stateView(x);
            call.on(x);
            String after = stateView(x);
            due("undo() of " + name, x.undo(), 0);
            due("the state before " + name, stateView(x), before);
            due("isBalanced() before " + name, x.isBalanced(), true);
            if (!name.equals("execute")) {
                call.on(x);
                due("the state after " + name + " again", stateView(x), after);
                due("undo() of " + name + " again", x.undo(), 0);
            }
            dueThrow("undo() of what was before restore", STATE, x::undo);
        });
    }

    private static void noModifications() {
        sentence(56, "The modifications are the successful calls of", () -> {
            Call[] others = {x -> x.portionOf(0, 9), x -> x.portionByRounds(0, 9), x -> x.nightsBySimulation(0),
                x -> x.votesFor(3), x -> x.lowestCap(), x -> x.richestLamp(0), x -> x.longestLamp(0),
                x -> x.writeLamp(0), x -> x.lineAt(0), x -> x.meanOil(), x -> x.isBalanced(), x -> x.type('x'),
                x -> x.errorPosition(), x -> x.failedCommand(), x -> x.save(), x -> x.canBurn(0), x -> x.isDark(0),
                x -> x.brightestStreet()};
            for (Call other : others) {
                LampCooperative x = ready();
                x.burnNight();
                outcome(() -> other.on(x));
                due("undo() of the night", x.undo(), 0);
                due("nightCount()", x.nightCount(), 4);
            }
        });
        sentence(56, "The modifications are the successful calls of", () -> {
            Call[] refused = {x -> x.addLamp(4, 1), x -> x.removeLamp(7), x -> x.setShares(0, 0),
                x -> x.setBrightness(0, 6), x -> x.switchOn(7), x -> x.switchOff(-1), x -> x.deliverOil(0),
                x -> x.buyOil(0, 60), x -> x.donateWicks(51), x -> x.giveWick(6, 9), x -> x.returnWick(0, 9),
                x -> x.addMoth(7), x -> x.moveMoth(2, 0), x -> x.proposeCap(0), x -> run(x, "x"), x -> run(x, "on 7")};
            for (int call = 0; call < refused.length; call++) {
                LampCooperative x = ready();
                x.execute();
                Call asked = refused[call];
                due("a refusal of call " + call, outcome(() -> asked.on(x)) instanceof Class, true);
                due("undo() of the text", x.undo(), 0);
                due("nightCount()", x.nightCount(), 4);
            }
        });
        sentence(56, "The modifications are the successful calls of", () -> {
            LampCooperative x = withLamps(1);
            due("execute", run(x, "on 0;".repeat(11) + "on 0"), 12);
            due("undo() of a text of twelve commands", x.undo(), 1);
            due("undo() of what was before", x.undo(), 0);
        });
    }

    private static void nothingVisible() {
        Call[] calls = {x -> x.switchOn(0), x -> x.switchOff(1), x -> x.setShares(0, 9), x -> x.setBrightness(0, 1),
            x -> x.moveMoth(0, 0), x -> x.proposeCap(5), x -> run(x, "on 0"), x -> run(x, "bright 0 1;off 1")};
        for (int number = 0; number < calls.length; number++) {
            Call call = calls[number];
            String name = "call " + number;
            sentence(56, "Modifications that change nothing visible, such as switching on a lamp that is on, "
                    + "can be undone like all others.", () -> {
                LampCooperative x = ready();
                outcome(x::execute);
                x.undo();
                x.switchOff(1);
                String before = stateView(x);
                call.on(x);
                due("the state after " + name, stateView(x), before);
                due("undo() of " + name, x.undo(), 1);
                due("the state without " + name, stateView(x), before);
                due("undo() of what was before", x.undo(), 0);
                due("isOn(1)", x.isOn(1), true);
            });
        }
        sentence(42, "Modifications that change nothing visible", () -> {
            LampCooperative x = withLamps(1, 1);
            x.setBrightness(1, 2);
            due("proposeCap(1) that is not carried", x.proposeCap(1), false);
            due("undo() of the motion", x.undo(), 3);
            due("brightnessOf(1)", x.brightnessOf(1), 2);
        });
    }

    private static void notOfTheState() {
        String not = "The text buffer, the error position, the index of the failed command and the line "
                + "are not part of the state that is undone, saved or restored.";
        Call[] ways = {LampCooperative::undo, LampCooperative::restore};
        for (Call way : ways) {
            String name = way == ways[0] ? "undo" : "restore";
            sentence(56, not, () -> {
                LampCooperative x = ready();
                x.execute();
                type(x, "cap");
                way.on(x);
                due("type after " + name, x.type(' '), 4);
            });
            sentence(56, not, () -> {
                LampCooperative x = ready();
                x.execute();
                malformed(x, "night;x", 6);
                way.on(x);
                due("errorPosition() after " + name, x.errorPosition(), 1);
            });
            sentence(56, not, () -> {
                LampCooperative x = ready();
                x.execute();
                fails(x, "on 0;on 0;on 7", 2);
                way.on(x);
                due("failedCommand() after " + name, x.failedCommand(), 2);
            });
            sentence(56, not, () -> {
                LampCooperative x = ready();
                x.execute();
                x.writeLamp(3);
                way.on(x);
                due("line after " + name, line(x), "3:3*3o23w3");
            });
        }
    }

    private static void save() {
        sentence(57, "Saves the state as a snapshot, which replaces an earlier snapshot.", () -> {
            LampCooperative x = withLamps(1);
            x.save();
            x.addLamp(1, 2);
            x.save();
            x.addLamp(2, 3);
            due("restore() of the second snapshot", x.restore(), 2);
            due("totalShares()", x.totalShares(), 3);
        });
        sentence(57, "Saves the state as a snapshot", () -> {
            LampCooperative x = fullHouse();
            x.setBrightness(7, 5);
            x.switchOff(6);
            x.burnNight();
            String saved = stateView(x);
            x.save();
            due("the state after save", stateView(x), saved);
            for (int lamp = 0; lamp < 8; lamp++) {
                x.removeLamp(0);
            }
            x.burnNight();
            x.restore();
            due("the state after restore", stateView(x), saved);
            due("isBalanced()", x.isBalanced(), true);
        });
        sentence(57, "Saves the state as a snapshot", () -> {
            LampCooperative x = fullHouse();
            x.save();
            String saved = stateView(x);
            changeTheLast(x);
            x.restore();
            due("the last lamp and the last moth", stateView(x), saved);
        });
        sentence(57, "Returns the number of lamps.", () -> {
            LampCooperative x = new LampCooperative();
            for (int lamps = 0; lamps < 8; lamps++) {
                due("save()", x.save(), lamps);
                x.addLamp(0, 1);
            }
            due("save() of all lamps", x.save(), 8);
            due("undo() after save", x.undo(), 7);
            due("save() after an undo", x.save(), 7);
        });
        sentence(57, "Saves the state as a snapshot", () -> {
            LampCooperative x = withLamps(1);
            x.save();
            x.undo();
            due("lampCount()", x.lampCount(), 0);
            due("restore() of what was undone", x.restore(), 1);
        });
    }

    private static void restore() {
        sentence(58, "Restores the snapshot, which is kept.", () -> {
            LampCooperative x = lived();
            x.restore();
            String restored = stateView(x);
            for (int again = 0; again < 3; again++) {
                x.removeLamp(0);
                x.setShares(0, 9);
                x.burnNight();
                due("restore()", x.restore(), 2);
                due("the state after restore", stateView(x), restored);
            }
            due("restore() at once again", x.restore(), 2);
            due("the state after restore", stateView(x), restored);
        });
        sentence(58, "Afterwards nothing can be undone.", () -> {
            LampCooperative x = lived();
            x.restore();
            refused(x, "undo() after restore", STATE, x::undo);
            x.burnNight();
            due("undo() of what came after", x.undo(), 0);
            refused(x, "undo() of more", STATE, x::undo);
        });
        sentence(58, "Afterwards nothing can be undone.", () -> {
            LampCooperative x = new LampCooperative();
            for (int night = 0; night < 11; night++) {
                x.burnNight();
            }
            x.save();
            x.restore();
            for (int night = 0; night < 9; night++) {
                x.burnNight();
            }
            for (int left = 7; left >= 0; left--) {
                due("undo() of the nights after restore", x.undo(), left);
                due("nightCount()", x.nightCount(), 12 + left);
            }
            refused(x, "undo() of more", STATE, x::undo);
        });
        sentence(58, "Returns the number of lamps.", () -> {
            LampCooperative x = new LampCooperative();
            x.save();
            x.addLamp(0, 1);
            due("restore() to no lamps", x.restore(), 0);
            LampCooperative y = eightLamps();
            y.save();
            y.removeLamp(0);
            due("restore() to all lamps", y.restore(), 8);
        });
        sentence(58, "Throws `IllegalStateException` if there is no snapshot", () -> {
            refusedAlike(LampCooperative::new, "restore()", STATE, LampCooperative::restore);
            refusedAlike(SentenceTest::fullHouse, "restore()", STATE, LampCooperative::restore);
            LampCooperative x = withLamps(1);
            due("undo() after a refused restore", outcome(x::restore).equals(STATE) ? x.undo() : -1, 0);
        });
    }
}
