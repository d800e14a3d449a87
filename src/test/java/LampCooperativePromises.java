import java.util.List;
import java.util.function.Function;
import java.util.function.IntFunction;

/** One method for each promise of the document, with ordinary inputs, the named edges and wrong inputs. */
public final class LampCooperativePromises extends CooperativeTest {
    private static final int[] NO_LAMPS_OF_TWO = {-1, 2, 3, 8, Integer.MIN_VALUE, Integer.MAX_VALUE};
    /** Each can follow on those before it. */
    private static final List<Function<LampCooperative, Object>> MODIFICATIONS = List.of(
            x -> x.addLamp(0, 1), x -> x.addLamp(1, 2), x -> x.setShares(0, 1), x -> x.setBrightness(0, 3),
            x -> x.switchOn(0), x -> x.switchOff(1), x -> x.deliverOil(200), x -> x.donateWicks(20),
            x -> x.giveWick(0, 9), x -> x.returnWick(0, 1), x -> x.addMoth(1), x -> x.moveMoth(0, 1),
            x -> x.moveMoth(0, 0), x -> x.burnNight(), x -> x.payDividend(), x -> x.buyOil(0, 2),
            x -> x.proposeCap(1), x -> x.proposeCap(4), x -> run(x, "night;off 0;night;on 0"), x -> x.removeLamp(0));

    private static void noSuchLamp(LampCooperative x, String call, IntFunction<Object> query) {
        refusedAll(x, call + "(..)", INDEX, query, NO_LAMPS_OF_TWO);
    }

    private static void promise1() {
        LampCooperative x = new LampCooperative();
        due("lampCount()", x.lampCount(), 0);
        due("mothCount()", x.mothCount(), 0);
        due("reserve()", x.reserve(), 0);
        due("pool()", x.pool(), 0);
        due("treasury()", x.treasury(), 0);
        due("nightCount()", x.nightCount(), 0);
        due("totalShares()", x.totalShares(), 0);
        due("brightestStreet()", x.brightestStreet(), 0);
        due("isBalanced()", x.isBalanced(), true);
        for (int street = 0; street < 4; street++) {
            due("glowOf", x.glowOf(street), 0);
            due("isDark", x.isDark(street), true);
        }
        refused(x, "streetOf(0)", INDEX, () -> x.streetOf(0));
        refused(x, "lampOfMoth(0)", INDEX, () -> x.lampOfMoth(0));
        refused(x, "lineAt(0)", INDEX, () -> x.lineAt(0));
        refused(x, "undo()", STATE, x::undo);
        refused(x, "restore()", STATE, x::restore);
        refused(x, "errorPosition()", NO_ELEMENT, x::errorPosition);
        refused(x, "failedCommand()", NO_ELEMENT, x::failedCommand);
        due("type", x.type('x'), 1);
    }

    private static void promise2() {
        LampCooperative x = new LampCooperative();
        for (int lamp = 0; lamp < 8; lamp++) {
            due("addLamp", x.addLamp(lamp % 4, lamp + 2), lamp);
            due("view", view(x).contains(lamp + ": street " + lamp % 4 + " shares " + (lamp + 2)
                    + " brightness 1 on true oil 0 wick 0 balance 0\n"), true);
        }
        dueThrow("the ninth addLamp", STATE, () -> x.addLamp(0, 1));
        due("lampCount()", x.lampCount(), 8);
        wrongLamps(new LampCooperative());
        wrongLamps(withLamps(1, 2, 3, 4, 5, 6, 7, 8));
        LampCooperative y = new LampCooperative();
        due("addLamp(3, 1)", y.addLamp(3, 1), 0);
        due("sharesOf(0)", y.sharesOf(0), 1);
        due("streetOf(0)", y.streetOf(0), 3);
        // A number that a removed lamp had starts afresh.
        y.burnNight();
        y.payDividend();
        y.deliverOil(50);
        y.donateWicks(3);
        y.giveWick(0, 3);
        y.setBrightness(0, 4);
        y.switchOff(0);
        y.removeLamp(0);
        y.addLamp(2, 5);
        due("view", view(y), "0: street 2 shares 5 brightness 1 on true oil 0 wick 0 balance 0\n"
                + "reserve 50 pool 3 treasury 12 nights 1 line ");
    }

    private static void wrongLamps(LampCooperative x) {
        refusedAll(x, "addLamp(.., 1)", ARGUMENT, street -> x.addLamp(street, 1),
                -1, 4, Integer.MIN_VALUE, Integer.MAX_VALUE);
        refusedAll(x, "addLamp(0, ..)", ARGUMENT, shares -> x.addLamp(0, shares),
                0, -1, 10, Integer.MIN_VALUE, Integer.MAX_VALUE);
    }

    private static void promise3() {
        LampCooperative x = withLamps(1, 2, 3);
        x.burnNight();
        x.payDividend();
        x.deliverOil(60);
        x.donateWicks(30);
        x.giveWick(0, 1);
        x.giveWick(1, 5);
        x.giveWick(2, 7);
        x.setBrightness(2, 4);
        x.switchOff(2);
        for (int lamp : new int[] {0, 1, 2}) {
            x.addMoth(lamp);
        }
        x.addMoth(2);
        x.moveMoth(3, -1);
        refusedAll(x, "removeLamp(..)", INDEX, x::removeLamp, -1, 3, 8, Integer.MIN_VALUE, Integer.MAX_VALUE);
        due("removeLamp(1)", x.removeLamp(1), 2);
        due("view", view(x), "0: street 0 shares 1 brightness 1 on true oil 10 wick 1 balance 2\n"
                + "1: street 2 shares 3 brightness 4 on false oil 30 wick 7 balance 6\n"
                + "moth 0 at 0 strikes 0 probation 3 member false\n"
                + "moth 1 at -1 strikes 0 probation 3 member false\n"
                + "moth 2 at 1 strikes 0 probation 3 member false\n"
                + "moth 3 at -1 strikes 0 probation 3 member false\n"
                + "reserve 20 pool 22 treasury 4 nights 1 line ");
        x.donateWicks(50);
        x.donateWicks(20);
        due("pool()", x.pool(), 92);
        due("removeLamp(1) to a pool of 99", x.removeLamp(1), 1);
        due("pool()", x.pool(), 99);
        refused(x, "removeLamp(0) to a pool of 100", STATE, () -> x.removeLamp(0));
        refused(x, "removeLamp(1)", INDEX, () -> x.removeLamp(1));
        due("isBalanced()", x.isBalanced(), true);
        LampCooperative y = withLamps(4);
        due("removeLamp(0)", y.removeLamp(0), 0);
    }

    private static void promise4() {
        LampCooperative x = withLamps(3, 4);
        due("setShares(0, 9)", x.setShares(0, 9), 3);
        due("setShares(0, 1)", x.setShares(0, 1), 9);
        due("setShares(1, 4)", x.setShares(1, 4), 4);
        due("sharesOf(0)", x.sharesOf(0), 1);
        due("sharesOf(1)", x.sharesOf(1), 4);
        refusedAll(x, "setShares(0, ..)", ARGUMENT, shares -> x.setShares(0, shares),
                0, 10, -1, Integer.MIN_VALUE, Integer.MAX_VALUE);
        refusedAll(x, "setShares(2, ..)", INDEX, shares -> x.setShares(2, shares),
                0, 10, -1, Integer.MIN_VALUE, Integer.MAX_VALUE);
        noSuchLamp(x, "setShares", lamp -> x.setShares(lamp, 1));
    }

    private static void promise5() {
        LampCooperative x = withLamps(3, 4);
        due("setBrightness(1, 5)", x.setBrightness(1, 5), 1);
        due("setBrightness(1, 1)", x.setBrightness(1, 1), 5);
        due("setBrightness(1, 3)", x.setBrightness(1, 3), 1);
        due("brightnessOf(0)", x.brightnessOf(0), 1);
        due("brightnessOf(1)", x.brightnessOf(1), 3);
        refusedAll(x, "setBrightness(0, ..)", ARGUMENT, brightness -> x.setBrightness(0, brightness),
                0, 6, -1, Integer.MIN_VALUE, Integer.MAX_VALUE);
        refusedAll(x, "setBrightness(-1, ..)", INDEX, brightness -> x.setBrightness(-1, brightness),
                0, 6, -1, Integer.MIN_VALUE, Integer.MAX_VALUE);
        noSuchLamp(x, "setBrightness", lamp -> x.setBrightness(lamp, 1));
    }

    private static void promise6() {
        LampCooperative x = withLamps(1, 1);
        due("switchOn(0)", x.switchOn(0), false);
        x.switchOff(0);
        x.switchOff(1);
        due("switchOn(0)", x.switchOn(0), true);
        due("isOn(0)", x.isOn(0), true);
        due("isOn(1)", x.isOn(1), false);
        due("switchOn(0)", x.switchOn(0), false);
        noSuchLamp(x, "switchOn", x::switchOn);
    }

    private static void promise7() {
        LampCooperative x = withLamps(1, 1);
        due("switchOff(1)", x.switchOff(1), true);
        due("isOn(0)", x.isOn(0), true);
        due("isOn(1)", x.isOn(1), false);
        due("switchOff(1)", x.switchOff(1), false);
        due("isOn(1)", x.isOn(1), false);
        noSuchLamp(x, "switchOff", x::switchOff);
    }

    private static void promise8() {
        LampCooperative x = new LampCooperative();
        for (int lamp = 0; lamp < 8; lamp++) {
            due("lampCount()", x.lampCount(), lamp);
            x.addLamp(0, 1);
        }
        due("lampCount()", x.lampCount(), 8);
        x.removeLamp(7);
        due("lampCount()", x.lampCount(), 7);
    }

    private static void promise9() {
        LampCooperative x = new LampCooperative();
        x.addLamp(3, 1);
        x.addLamp(1, 2);
        due("streetOf(0)", x.streetOf(0), 3);
        due("streetOf(1)", x.streetOf(1), 1);
        noSuchLamp(x, "streetOf", x::streetOf);
    }

    private static void promise10() {
        LampCooperative x = withLamps(9, 1);
        due("sharesOf(0)", x.sharesOf(0), 9);
        due("sharesOf(1)", x.sharesOf(1), 1);
        noSuchLamp(x, "sharesOf", x::sharesOf);
    }

    private static void promise11() {
        LampCooperative x = withLamps(1, 1);
        due("brightnessOf(1)", x.brightnessOf(1), 1);
        x.setBrightness(1, 5);
        due("brightnessOf(0)", x.brightnessOf(0), 1);
        due("brightnessOf(1)", x.brightnessOf(1), 5);
        noSuchLamp(x, "brightnessOf", x::brightnessOf);
    }

    private static void promise12() {
        LampCooperative x = withLamps(1, 1);
        due("isOn(0)", x.isOn(0), true);
        x.switchOff(0);
        due("isOn(0)", x.isOn(0), false);
        due("isOn(1)", x.isOn(1), true);
        noSuchLamp(x, "isOn", x::isOn);
    }

    private static void promise13() {
        LampCooperative x = withLamps(1, 2);
        due("oilOf(0)", x.oilOf(0), 0);
        x.deliverOil(30);
        due("oilOf(0)", x.oilOf(0), 10);
        due("oilOf(1)", x.oilOf(1), 20);
        noSuchLamp(x, "oilOf", x::oilOf);
    }

    private static void promise14() {
        LampCooperative x = withLamps(1, 2);
        x.donateWicks(9);
        x.giveWick(1, 4);
        due("wickOf(0)", x.wickOf(0), 0);
        due("wickOf(1)", x.wickOf(1), 4);
        noSuchLamp(x, "wickOf", x::wickOf);
    }

    private static void promise15() {
        LampCooperative x = withLamps(1, 2);
        due("balanceOf(0)", x.balanceOf(0), 0);
        x.burnNight();
        x.payDividend();
        due("balanceOf(0)", x.balanceOf(0), 4);
        due("balanceOf(1)", x.balanceOf(1), 8);
        noSuchLamp(x, "balanceOf", x::balanceOf);
    }

    private static void promise16() {
        LampCooperative x = new LampCooperative();
        refused(x, "deliverOil(1)", STATE, () -> x.deliverOil(1));
        refused(x, "deliverOil(0)", ARGUMENT, () -> x.deliverOil(0));
        refused(x, "deliverOil(201)", ARGUMENT, () -> x.deliverOil(201));
        x.addLamp(0, 3);
        x.addLamp(0, 2);
        x.addLamp(0, 2);
        refusedAll(x, "deliverOil(..)", ARGUMENT, x::deliverOil, 0, -1, 201, Integer.MIN_VALUE, Integer.MAX_VALUE);
        due("deliverOil(1)", x.deliverOil(1), 1);
        due("oilOf(0)", x.oilOf(0), 1);
        // 9 * 3 / 7 = 3 rest 6, 9 * 2 / 7 = 2 rest 4: 2 units are left, for lamps 0 and 1.
        due("deliverOil(9)", x.deliverOil(9), 9);
        due("oilOf(0)", x.oilOf(0), 5);
        due("oilOf(1)", x.oilOf(1), 3);
        due("oilOf(2)", x.oilOf(2), 2);
        // 200 units: 86, 57, 57; room is for 55, 57, 58.
        due("deliverOil(200)", x.deliverOil(200), 169);
        due("oilOf(0)", x.oilOf(0), 60);
        due("oilOf(1)", x.oilOf(1), 60);
        due("oilOf(2)", x.oilOf(2), 59);
        due("reserve()", x.reserve(), 31);
        due("deliverOil(2)", x.deliverOil(2), 0);
        due("oilOf(2)", x.oilOf(2), 59);
        due("reserve()", x.reserve(), 33);
        due("deliverOil(3)", x.deliverOil(3), 1);
        due("reserve()", x.reserve(), 35);
        due("isBalanced()", x.isBalanced(), true);
    }

    private static void promise17() {
        LampCooperative x = withLamps(1, 1);
        x.deliverOil(200);
        due("reserve()", x.reserve(), 80);
        x.donateWicks(20);
        x.giveWick(0, 9);
        x.setBrightness(0, 5);
        x.burnNight();
        x.payDividend();
        due("balanceOf(0)", x.balanceOf(0), 5);
        refusedAll(x, "buyOil(0, ..)", ARGUMENT, units -> x.buyOil(0, units),
                0, -1, 61, Integer.MIN_VALUE, Integer.MAX_VALUE);
        refusedAll(x, "buyOil(2, ..)", INDEX, units -> x.buyOil(2, units),
                0, -1, 61, Integer.MIN_VALUE, Integer.MAX_VALUE);
        noSuchLamp(x, "buyOil", lamp -> x.buyOil(lamp, 1));
        refused(x, "buyOil(0, 6) without the room or the coins", STATE, () -> x.buyOil(0, 6));
        refused(x, "buyOil(0, 60)", STATE, () -> x.buyOil(0, 60));
        refused(x, "buyOil(1, 1) without the room", STATE, () -> x.buyOil(1, 1));
        due("buyOil(0, 3)", x.buyOil(0, 3), 58);
        due("balanceOf(0)", x.balanceOf(0), 2);
        due("treasury()", x.treasury(), 3);
        due("reserve()", x.reserve(), 77);
        due("buyOil(0, 2)", x.buyOil(0, 2), 60);
        due("balanceOf(0)", x.balanceOf(0), 0);
        x.burnNight();
        refused(x, "buyOil(0, 1) without the coins", STATE, () -> x.buyOil(0, 1));
        due("isBalanced()", x.isBalanced(), true);

        // A small reserve: 61 units for one lamp leave 1.
        LampCooperative y = withLamps(1);
        y.donateWicks(9);
        y.giveWick(0, 9);
        y.setBrightness(0, 2);
        y.deliverOil(61);
        y.burnNight();
        y.payDividend();
        refused(y, "buyOil(0, 2) from a reserve of 1", STATE, () -> y.buyOil(0, 2));
        due("buyOil(0, 1)", y.buyOil(0, 1), 59);
        due("reserve()", y.reserve(), 0);
        refused(y, "buyOil(0, 1) from an empty reserve", STATE, () -> y.buyOil(0, 1));

        // The room decides: coins and reserve are plenty.
        LampCooperative z = withLamps(1);
        for (int night = 0; night < 6; night++) {
            z.burnNight();
        }
        z.payDividend();
        z.deliverOil(200);
        z.donateWicks(1);
        z.giveWick(0, 1);
        z.setBrightness(0, 5);
        z.burnNight();
        refused(z, "buyOil(0, 6) into a room of 5", STATE, () -> z.buyOil(0, 6));
        due("buyOil(0, 5)", z.buyOil(0, 5), 60);
        // An empty tank can take a whole tank at once.
        LampCooperative w = withLamps(1);
        for (int night = 0; night < 5; night++) {
            w.burnNight();
        }
        w.payDividend();
        w.deliverOil(60);
        w.removeLamp(0);
        w.addLamp(0, 1);
        w.payDividend();
        due("buyOil(0, 60)", w.buyOil(0, 60), 60);
        due("balanceOf(0)", w.balanceOf(0), 0);
        due("treasury()", w.treasury(), 60);
        due("isBalanced()", w.isBalanced(), true);
    }

    private static void promise18() {
        LampCooperative x = new LampCooperative();
        refusedAll(x, "donateWicks(..)", ARGUMENT, x::donateWicks, 0, -1, 51, Integer.MIN_VALUE, Integer.MAX_VALUE);
        due("donateWicks(50)", x.donateWicks(50), 50);
        refused(x, "donateWicks(50)", STATE, () -> x.donateWicks(50));
        refused(x, "donateWicks(51)", ARGUMENT, () -> x.donateWicks(51));
        due("donateWicks(1)", x.donateWicks(1), 51);
        due("donateWicks(48)", x.donateWicks(48), 99);
        refused(x, "donateWicks(1)", STATE, () -> x.donateWicks(1));
        due("pool()", x.pool(), 99);
    }

    private static void promise19() {
        LampCooperative x = withLamps(1, 1);
        refused(x, "giveWick(0, 1)", STATE, () -> x.giveWick(0, 1));
        x.donateWicks(15);
        refusedAll(x, "giveWick(0, ..)", ARGUMENT, units -> x.giveWick(0, units),
                0, -1, 10, Integer.MIN_VALUE, Integer.MAX_VALUE);
        refusedAll(x, "giveWick(2, ..)", INDEX, units -> x.giveWick(2, units),
                0, -1, 10, Integer.MIN_VALUE, Integer.MAX_VALUE);
        noSuchLamp(x, "giveWick", lamp -> x.giveWick(lamp, 1));
        due("giveWick(0, 3)", x.giveWick(0, 3), 3);
        due("pool()", x.pool(), 12);
        refused(x, "giveWick(0, 7)", STATE, () -> x.giveWick(0, 7));
        due("giveWick(0, 6)", x.giveWick(0, 6), 9);
        refused(x, "giveWick(1, 7) from a pool of 6", STATE, () -> x.giveWick(1, 7));
        due("giveWick(1, 6)", x.giveWick(1, 6), 6);
        due("pool()", x.pool(), 0);
    }

    private static void promise20() {
        LampCooperative x = withLamps(1, 1);
        x.donateWicks(20);
        x.giveWick(0, 9);
        x.giveWick(1, 4);
        refusedAll(x, "returnWick(0, ..)", ARGUMENT, units -> x.returnWick(0, units),
                0, -1, 10, Integer.MIN_VALUE, Integer.MAX_VALUE);
        refusedAll(x, "returnWick(-1, ..)", INDEX, units -> x.returnWick(-1, units),
                0, -1, 10, Integer.MIN_VALUE, Integer.MAX_VALUE);
        noSuchLamp(x, "returnWick", lamp -> x.returnWick(lamp, 1));
        refused(x, "returnWick(1, 5)", STATE, () -> x.returnWick(1, 5));
        due("returnWick(1, 1)", x.returnWick(1, 1), 3);
        due("pool()", x.pool(), 8);
        due("returnWick(1, 3)", x.returnWick(1, 3), 0);
        due("pool()", x.pool(), 11);
        refused(x, "returnWick(1, 1)", STATE, () -> x.returnWick(1, 1));
        x.donateWicks(50);
        x.donateWicks(30);
        due("pool()", x.pool(), 91);
        refused(x, "returnWick(0, 9) to a pool of 100", STATE, () -> x.returnWick(0, 9));
        due("returnWick(0, 8) to a pool of 99", x.returnWick(0, 8), 1);
        due("pool()", x.pool(), 99);
        refused(x, "returnWick(0, 1)", STATE, () -> x.returnWick(0, 1));
    }

    private static void promise21() {
        LampCooperative x = new LampCooperative();
        refused(x, "payDividend()", STATE, x::payDividend);
        x.burnNight();
        refused(x, "payDividend() without lamps", STATE, x::payDividend);
        x.addLamp(0, 2);
        x.addLamp(1, 2);
        x.addLamp(2, 3);
        // 12 * 2 / 7 = 3 rest 3, 12 * 3 / 7 = 5 rest 1: the unit that is left goes to lamp 0.
        due("payDividend()", x.payDividend(), 12);
        due("balanceOf(0)", x.balanceOf(0), 4);
        due("balanceOf(1)", x.balanceOf(1), 3);
        due("balanceOf(2)", x.balanceOf(2), 5);
        due("treasury()", x.treasury(), 0);
        refused(x, "payDividend() of nothing", STATE, x::payDividend);
        x.burnNight();
        due("payDividend()", x.payDividend(), 12);
        due("balanceOf(2)", x.balanceOf(2), 10);
        due("isBalanced()", x.isBalanced(), true);
    }

    private static void promise22() {
        LampCooperative x = withLamps(1);
        due("reserve()", x.reserve(), 0);
        x.deliverOil(60);
        due("reserve()", x.reserve(), 0);
        x.deliverOil(7);
        due("reserve()", x.reserve(), 7);
        x.removeLamp(0);
        due("reserve()", x.reserve(), 67);
    }

    private static void promise23() {
        LampCooperative x = withLamps(1);
        due("pool()", x.pool(), 0);
        x.donateWicks(7);
        due("pool()", x.pool(), 7);
        x.giveWick(0, 3);
        due("pool()", x.pool(), 4);
    }

    private static void promise24() {
        LampCooperative x = withLamps(1);
        due("treasury()", x.treasury(), 0);
        x.burnNight();
        due("treasury()", x.treasury(), 12);
        x.burnNight();
        due("treasury()", x.treasury(), 24);
        x.payDividend();
        due("treasury()", x.treasury(), 0);
        x.removeLamp(0);
        due("treasury()", x.treasury(), 24);
    }

    private interface Portion {
        int of(LampCooperative x, int lamp, int amount);
    }

    private static void portions(String call, Portion portion) {
        int[][] shares = {{1}, {9}, {3, 2, 2}, {1, 1, 1}, {2, 2, 3}, {9, 8, 7, 6, 5, 4, 3, 2},
            {1, 1, 1, 1, 1, 1, 1, 1}};
        int[][] amounts = {{999}, {0}, {10}, {2}, {5}, {100}, {11}};
        int[][] dues = {{999}, {0}, {4, 3, 3}, {1, 1, 0}, {2, 1, 2}, {20, 18, 16, 14, 11, 9, 7, 5},
            {2, 2, 2, 1, 1, 1, 1, 1}};
        for (int row = 0; row < shares.length; row++) {
            LampCooperative x = withLamps(shares[row]);
            String before = view(x);
            for (int lamp = 0; lamp < shares[row].length; lamp++) {
                int portionDue = dues[row][lamp];
                due(call + " of lamp " + lamp + " in row " + row, portion.of(x, lamp, amounts[row][0]), portionDue);
            }
            due("the state after " + call, view(x), before);
            due("undoable", undoable(x), shares[row].length);
        }
        LampCooperative x = withLamps(3, 4);
        refusedAll(x, call + "(0, ..)", ARGUMENT, amount -> portion.of(x, 0, amount),
                -1, 1000, Integer.MIN_VALUE, Integer.MAX_VALUE);
        refusedAll(x, call + "(2, ..)", INDEX, amount -> portion.of(x, 2, amount),
                -1, 1000, Integer.MIN_VALUE, Integer.MAX_VALUE);
        noSuchLamp(x, call, lamp -> portion.of(x, lamp, 1));
        x.setShares(0, 1);
        due(call + " after setShares", portion.of(x, 0, 999), 200);
        due(call + " after setShares", portion.of(x, 1, 999), 799);
    }

    private static void promise25() {
        portions("portionOf", LampCooperative::portionOf);
    }

    private static void promise26() {
        portions("portionByRounds", LampCooperative::portionByRounds);
        for (int amount = 0; amount <= 999; amount++) {
            LampCooperative x = withLamps(5, 1, 7, 7, 2, 9, 3, 4);
            int sum = 0;
            for (int lamp = 0; lamp < 8; lamp++) {
                due("portionByRounds(" + lamp + ", " + amount + ")", x.portionByRounds(lamp, amount),
                        x.portionOf(lamp, amount));
                sum += x.portionByRounds(lamp, amount);
            }
            due("the sum of the portions", sum, amount);
        }
    }

    private static void promise27() {
        LampCooperative x = withLamps(1, 1);
        noSuchLamp(x, "addMoth", x::addMoth);
        for (int moth = 0; moth < 6; moth++) {
            due("addMoth", x.addMoth(moth % 2), moth);
            due("lampOfMoth", x.lampOfMoth(moth), moth % 2);
            due("strikesOf", x.strikesOf(moth), 0);
            due("probationOf", x.probationOf(moth), 3);
            due("isMember", x.isMember(moth), false);
        }
        refused(x, "the seventh addMoth", STATE, () -> x.addMoth(0));
        noSuchLamp(x, "the seventh addMoth", x::addMoth);
        // A number that a moth had which left starts afresh.
        LampCooperative y = supplied();
        y.addMoth(0);
        y.burnNight();
        y.burnNight();
        due("addMoth", y.addMoth(1), 0);
        due("strikesOf", y.strikesOf(0), 0);
        due("probationOf", y.probationOf(0), 3);
    }

    private static void promise28() {
        LampCooperative x = withLamps(1, 1);
        x.addMoth(0);
        x.addMoth(1);
        due("moveMoth(0, 1)", x.moveMoth(0, 1), 0);
        due("moveMoth(0, 1) to where it is", x.moveMoth(0, 1), 1);
        due("moveMoth(0, -1)", x.moveMoth(0, -1), 1);
        due("moveMoth(0, -1) again", x.moveMoth(0, -1), -1);
        due("moveMoth(0, 0)", x.moveMoth(0, 0), -1);
        due("lampOfMoth(0)", x.lampOfMoth(0), 0);
        due("lampOfMoth(1)", x.lampOfMoth(1), 1);
        refusedAll(x, "moveMoth(0, ..)", INDEX, number -> x.moveMoth(0, number),
                -2, 2, 8, Integer.MIN_VALUE, Integer.MAX_VALUE);
        refusedAll(x, "moveMoth(.., 0)", INDEX, number -> x.moveMoth(number, 0),
                -2, 2, 8, Integer.MIN_VALUE, Integer.MAX_VALUE);
        refused(x, "moveMoth(-1, -1)", INDEX, () -> x.moveMoth(-1, -1));
        due("undoable", undoable(x), 8);
    }

    private static void promise29() {
        LampCooperative x = supplied();
        due("mothCount()", x.mothCount(), 0);
        x.addMoth(0);
        x.addMoth(1);
        due("mothCount()", x.mothCount(), 2);
        x.moveMoth(0, -1);
        x.burnNight();
        due("mothCount()", x.mothCount(), 2);
        x.burnNight();
        due("mothCount()", x.mothCount(), 1);
    }

    private static void noSuchMoth(LampCooperative x, String call, IntFunction<Object> query) {
        refusedAll(x, call + "(..)", INDEX, query, -1, 2, 6, Integer.MIN_VALUE, Integer.MAX_VALUE);
    }

    private static LampCooperative withTwoMoths() {
        LampCooperative x = supplied();
        x.addMoth(0);
        x.addMoth(1);
        x.moveMoth(1, -1);
        return x;
    }

    private static void promise30() {
        LampCooperative x = withTwoMoths();
        due("lampOfMoth(0)", x.lampOfMoth(0), 0);
        due("lampOfMoth(1)", x.lampOfMoth(1), -1);
        noSuchMoth(x, "lampOfMoth", x::lampOfMoth);
    }

    private static void promise31() {
        LampCooperative x = withTwoMoths();
        due("strikesOf(0)", x.strikesOf(0), 0);
        x.burnNight();
        due("strikesOf(0)", x.strikesOf(0), 1);
        due("strikesOf(1)", x.strikesOf(1), 0);
        noSuchMoth(x, "strikesOf", x::strikesOf);
    }

    private static void promise32() {
        LampCooperative x = withTwoMoths();
        due("probationOf(1)", x.probationOf(1), 3);
        x.burnNight();
        due("probationOf(0) with a strike", x.probationOf(0), 3);
        due("probationOf(1)", x.probationOf(1), 2);
        noSuchMoth(x, "probationOf", x::probationOf);
        x.moveMoth(0, -1);
        x.burnNight();
        x.burnNight();
        due("probationOf(1) of a member", x.probationOf(1), 0);
        due("probationOf(0)", x.probationOf(0), 1);
        x.burnNight();
        due("probationOf(1) of a member", x.probationOf(1), 0);
        due("strikesOf(0) of a member", x.strikesOf(0), 1);
    }

    private static void promise33() {
        LampCooperative x = withTwoMoths();
        x.burnNight();
        x.moveMoth(0, -1);
        x.burnNight();
        due("isMember(1)", x.isMember(1), false);
        x.burnNight();
        due("isMember(0)", x.isMember(0), false);
        due("isMember(1)", x.isMember(1), true);
        noSuchMoth(x, "isMember", x::isMember);
    }

    private static void promise34() {
        LampCooperative x = supplied();
        x.setBrightness(0, 3);
        due("burnNight()", x.burnNight(), 2);
        due("view", view(x), "0: street 0 shares 1 brightness 3 on true oil 37 wick 8 balance 0\n"
                + "1: street 1 shares 1 brightness 1 on true oil 39 wick 8 balance 0\n"
                + "reserve 0 pool 32 treasury 6 nights 1 line ");
        x.switchOff(0);
        due("burnNight() with one lamp off", x.burnNight(), 1);
        due("oilOf(0)", x.oilOf(0), 37);
        due("treasury()", x.treasury(), 15);
        due("undo()", x.undo(), 7);
        due("nightCount()", x.nightCount(), 1);
        due("burnNight() without lamps", new LampCooperative().burnNight(), 0);
        lastOilAndWick();
        membersEat();
        mothsLeaveTogether();
        due("isBalanced()", x.isBalanced(), true);
    }

    /** A lamp that used its last oil and wick in this night counts as burning to the end of the night. */
    private static void lastOilAndWick() {
        LampCooperative x = withLamps(1);
        x.deliverOil(2);
        x.setBrightness(0, 2);
        x.donateWicks(1);
        x.giveWick(0, 1);
        x.addMoth(0);
        due("burnNight()", x.burnNight(), 1);
        due("oilOf(0)", x.oilOf(0), 0);
        due("wickOf(0)", x.wickOf(0), 0);
        due("strikesOf(0)", x.strikesOf(0), 1);
        due("treasury()", x.treasury(), 9);
        due("burnNight()", x.burnNight(), 0);
        due("strikesOf(0)", x.strikesOf(0), 1);
        due("probationOf(0)", x.probationOf(0), 2);
        due("treasury()", x.treasury(), 21);
    }

    private static void membersEat() {
        LampCooperative x = supplied();
        for (int moth = 0; moth < 3; moth++) {
            x.addMoth(0);
            x.moveMoth(moth, -1);
        }
        x.burnNight();
        x.burnNight();
        x.switchOff(0);
        for (int moth = 0; moth < 3; moth++) {
            x.moveMoth(moth, 0);
        }
        x.burnNight();
        due("isMember(2)", x.isMember(2), true);
        due("oilOf(0) when nobody eats from a dark lamp", x.oilOf(0), 38);
        x.burnNight();
        due("oilOf(0) when nobody eats from a dark lamp", x.oilOf(0), 38);
        x.switchOn(0);
        x.burnNight();
        due("oilOf(0) after three meals", x.oilOf(0), 34);
        due("oilOf(1)", x.oilOf(1), 35);
        due("mothCount()", x.mothCount(), 3);
        due("strikesOf(0)", x.strikesOf(0), 0);
        due("isBalanced()", x.isBalanced(), true);
        // 6 units: 5 are burned, the first moth eats the last one.
        LampCooperative y = withLamps(1);
        for (int moth = 0; moth < 2; moth++) {
            y.addMoth(0);
        }
        for (int night = 0; night < 3; night++) {
            y.burnNight();
        }
        y.setBrightness(0, 5);
        y.deliverOil(6);
        y.donateWicks(2);
        y.giveWick(0, 2);
        due("burnNight()", y.burnNight(), 1);
        due("oilOf(0)", y.oilOf(0), 0);
        due("isBalanced()", y.isBalanced(), true);
        // A moth that becomes a member in a night does not eat in it.
        LampCooperative z = supplied();
        z.addMoth(0);
        z.moveMoth(0, -1);
        z.burnNight();
        z.burnNight();
        z.switchOff(0);
        z.moveMoth(0, 0);
        z.burnNight();
        z.switchOn(0);
        due("oilOf(0)", z.oilOf(0), 38);
        z.burnNight();
        due("oilOf(0)", z.oilOf(0), 36);
    }

    private static void mothsLeaveTogether() {
        LampCooperative x = supplied();
        x.addLamp(1, 1);
        x.addMoth(0);
        x.addMoth(1);
        x.addMoth(0);
        x.addMoth(2);
        x.burnNight();
        x.moveMoth(1, -1);
        x.burnNight();
        due("view", view(x), "0: street 0 shares 1 brightness 1 on true oil 38 wick 7 balance 0\n"
                + "1: street 1 shares 1 brightness 1 on true oil 38 wick 7 balance 0\n"
                + "2: street 1 shares 1 brightness 1 on true oil 0 wick 0 balance 0\n"
                + "moth 0 at -1 strikes 1 probation 2 member false\n"
                + "moth 1 at 2 strikes 0 probation 1 member false\n"
                + "reserve 0 pool 32 treasury 12 nights 2 line ");
    }

    private static void promise35() {
        LampCooperative x = withLamps(1);
        for (int night = 0; night < 10; night++) {
            due("nightCount()", x.nightCount(), night);
            x.burnNight();
        }
        x.undo();
        due("nightCount()", x.nightCount(), 9);
    }

    private static void promise36() {
        LampCooperative x = withLamps(1, 1);
        due("canBurn(0)", x.canBurn(0), false);
        x.deliverOil(4);
        due("canBurn(0) without wick", x.canBurn(0), false);
        x.donateWicks(2);
        x.giveWick(0, 1);
        due("canBurn(0)", x.canBurn(0), true);
        due("canBurn(1)", x.canBurn(1), false);
        x.setBrightness(0, 2);
        due("canBurn(0) with just enough oil", x.canBurn(0), true);
        x.setBrightness(0, 3);
        due("canBurn(0) with too little oil", x.canBurn(0), false);
        x.setBrightness(0, 1);
        x.switchOff(0);
        due("canBurn(0) when off", x.canBurn(0), false);
        noSuchLamp(x, "canBurn", x::canBurn);
    }

    private static void nights(String call, boolean simulated) {
        LampCooperative x = withLamps(1, 1);
        IntFunction<Object> nights =
                lamp -> simulated ? x.nightsBySimulation(lamp) : x.nightsOf(lamp);
        due(call, nights.apply(0), 0);
        x.deliverOil(40);
        due(call + " without wick", nights.apply(0), 0);
        x.donateWicks(50);
        x.giveWick(0, 9);
        due(call + " as long as the wick", nights.apply(0), 9);
        due(call, nights.apply(1), 0);
        int[] dues = {9, 9, 6, 5, 4};
        for (int brightness = 1; brightness <= 5; brightness++) {
            x.setBrightness(0, brightness);
            due(call + " at brightness " + brightness, nights.apply(0), dues[brightness - 1]);
        }
        x.switchOff(0);
        due(call + " when off", nights.apply(0), 4);
        x.addMoth(0);
        due(call + " with a moth", nights.apply(0), 4);
        due("oilOf(0)", x.oilOf(0), 20);
        noSuchLamp(x, call, nights);
    }

    private static void promise37() {
        nights("nightsOf", false);
    }

    private static void promise38() {
        nights("nightsBySimulation", true);
    }

    /** Lamps 0 and 1 in street 2, lamp 2 in street 3. */
    private static LampCooperative twoStreets() {
        LampCooperative x = new LampCooperative();
        x.addLamp(2, 1);
        x.addLamp(2, 1);
        x.addLamp(3, 1);
        x.deliverOil(90);
        x.donateWicks(27);
        for (int lamp = 0; lamp < 3; lamp++) {
            x.giveWick(lamp, 5);
        }
        x.setBrightness(0, 2);
        x.setBrightness(1, 3);
        x.setBrightness(2, 5);
        return x;
    }

    private static void noSuchStreet(LampCooperative x, String call, IntFunction<Object> query) {
        refusedAll(x, call + "(..)", INDEX, query, -1, 4, Integer.MIN_VALUE, Integer.MAX_VALUE);
    }

    private static void promise39() {
        LampCooperative x = twoStreets();
        due("glowOf(0)", x.glowOf(0), 0);
        due("glowOf(1)", x.glowOf(1), 0);
        due("glowOf(2)", x.glowOf(2), 5);
        due("glowOf(3)", x.glowOf(3), 5);
        x.switchOff(0);
        due("glowOf(2)", x.glowOf(2), 3);
        x.returnWick(1, 5);
        due("glowOf(2)", x.glowOf(2), 0);
        noSuchStreet(x, "glowOf", x::glowOf);
    }

    private static void promise40() {
        LampCooperative x = twoStreets();
        due("isDark(0)", x.isDark(0), true);
        due("isDark(1)", x.isDark(1), true);
        due("isDark(2)", x.isDark(2), false);
        due("isDark(3)", x.isDark(3), false);
        x.switchOff(0);
        due("isDark(2)", x.isDark(2), false);
        x.switchOff(1);
        due("isDark(2)", x.isDark(2), true);
        x.returnWick(2, 5);
        due("isDark(3)", x.isDark(3), true);
        noSuchStreet(x, "isDark", x::isDark);
    }

    private static void promise41() {
        LampCooperative x = twoStreets();
        due("brightestStreet() of equal ones", x.brightestStreet(), 2);
        x.setBrightness(0, 1);
        due("brightestStreet()", x.brightestStreet(), 3);
        x.switchOff(2);
        due("brightestStreet()", x.brightestStreet(), 2);
        x.switchOff(0);
        x.switchOff(1);
        due("brightestStreet() of dark ones", x.brightestStreet(), 0);
        LampCooperative y = supplied();
        due("brightestStreet() of equal ones", y.brightestStreet(), 0);
        y.setBrightness(1, 2);
        due("brightestStreet()", y.brightestStreet(), 1);
        y.setBrightness(0, 3);
        due("brightestStreet()", y.brightestStreet(), 0);
    }

    private static void promise42() {
        LampCooperative x = new LampCooperative();
        refusedAll(x, "proposeCap(..)", ARGUMENT, x::proposeCap, 0, 6, -1, Integer.MIN_VALUE, Integer.MAX_VALUE);
        refused(x, "proposeCap(1)", STATE, () -> x.proposeCap(1));
        x.addLamp(0, 2);
        x.addLamp(1, 3);
        x.addLamp(2, 5);
        x.setBrightness(0, 5);
        x.setBrightness(1, 4);
        x.setBrightness(2, 2);
        x.switchOff(2);
        refusedAll(x, "proposeCap(..)", ARGUMENT, x::proposeCap, 0, 6, -1, Integer.MIN_VALUE, Integer.MAX_VALUE);
        String before = view(x);
        due("proposeCap(1)", x.proposeCap(1), false);
        due("proposeCap(2) with just half of the shares", x.proposeCap(2), false);
        due("view", view(x), before);
        due("proposeCap(4)", x.proposeCap(4), true);
        due("brightnessOf(0)", x.brightnessOf(0), 4);
        due("brightnessOf(1)", x.brightnessOf(1), 4);
        due("brightnessOf(2)", x.brightnessOf(2), 2);
        x.setShares(2, 6);
        due("proposeCap(3)", x.proposeCap(3), true);
        due("brightnessOf(0)", x.brightnessOf(0), 3);
        due("brightnessOf(1)", x.brightnessOf(1), 3);
        due("brightnessOf(2)", x.brightnessOf(2), 2);
        due("proposeCap(5)", x.proposeCap(5), true);
        due("brightnessOf(0)", x.brightnessOf(0), 3);
        due("undoable", undoable(x), 8);
        due("brightnessOf(0) after eight undos", x.brightnessOf(0), 5);
    }

    private static void promise43() {
        LampCooperative x = new LampCooperative();
        due("votesFor(5)", x.votesFor(5), 0);
        x.addLamp(0, 2);
        x.addLamp(1, 3);
        x.addLamp(2, 5);
        x.setBrightness(0, 5);
        x.setBrightness(1, 4);
        x.setBrightness(2, 2);
        int[] dues = {0, 5, 5, 8, 10};
        for (int cap = 1; cap <= 5; cap++) {
            due("votesFor(" + cap + ")", x.votesFor(cap), dues[cap - 1]);
        }
        refusedAll(x, "votesFor(..)", ARGUMENT, x::votesFor, 0, 6, -1, Integer.MIN_VALUE, Integer.MAX_VALUE);
    }

    private static void promise44() {
        LampCooperative x = new LampCooperative();
        refused(x, "lowestCap()", NO_ELEMENT, x::lowestCap);
        x.addLamp(0, 5);
        due("lowestCap()", x.lowestCap(), 1);
        x.setBrightness(0, 5);
        due("lowestCap()", x.lowestCap(), 5);
        x.addLamp(1, 5);
        due("lowestCap() with half of the shares below", x.lowestCap(), 5);
        x.setShares(1, 6);
        due("lowestCap()", x.lowestCap(), 1);
        x.setBrightness(1, 3);
        due("lowestCap()", x.lowestCap(), 3);
    }

    private static void promise45() {
        LampCooperative x = withLamps(9, 9, 9, 9, 9, 9, 9, 9);
        due("totalShares()", x.totalShares(), 72);
        x.setShares(3, 2);
        due("totalShares()", x.totalShares(), 65);
        x.removeLamp(3);
        due("totalShares()", x.totalShares(), 63);
    }

    private static void badRanks(LampCooperative x, String call, IntFunction<Object> query) {
        refusedAll(x, call + "(..)", NO_ELEMENT, query, -1, x.lampCount(), 8, Integer.MIN_VALUE, Integer.MAX_VALUE);
    }

    private static void promise46() {
        LampCooperative x = withLamps(2, 5, 2, 9, 5);
        for (int rank = 0; rank < 5; rank++) {
            due("richestLamp(" + rank + ") of equal balances", x.richestLamp(rank), rank);
        }
        x.burnNight();
        x.burnNight();
        x.payDividend();
        int[] dues = {3, 1, 4, 0, 2};
        for (int rank = 0; rank < 5; rank++) {
            due("richestLamp(" + rank + ")", x.richestLamp(rank), dues[rank]);
        }
        badRanks(x, "richestLamp", x::richestLamp);
        badRanks(new LampCooperative(), "richestLamp", new LampCooperative()::richestLamp);
    }

    private static void promise47() {
        LampCooperative x = withLamps(1, 1, 1, 1);
        x.deliverOil(80);
        x.donateWicks(30);
        for (int rank = 0; rank < 4; rank++) {
            due("longestLamp(" + rank + ") of equal nights", x.longestLamp(rank), rank);
        }
        x.giveWick(0, 2);
        x.giveWick(1, 7);
        x.giveWick(2, 9);
        x.giveWick(3, 7);
        x.switchOff(1);
        x.setBrightness(2, 5);
        int[] dues = {1, 3, 2, 0};
        for (int rank = 0; rank < 4; rank++) {
            due("longestLamp(" + rank + ")", x.longestLamp(rank), dues[rank]);
        }
        x.giveWick(0, 5);
        x.setBrightness(1, 4);
        int[] later = {0, 3, 1, 2};
        for (int rank = 0; rank < 4; rank++) {
            due("longestLamp(" + rank + ")", x.longestLamp(rank), later[rank]);
        }
        badRanks(x, "longestLamp", x::longestLamp);
        badRanks(new LampCooperative(), "longestLamp", new LampCooperative()::longestLamp);
    }

    private static void promise48() {
        LampCooperative x = withLamps(1, 1, 1);
        due("writeLamp(1)", x.writeLamp(1), 9);
        due("line", line(x), "1:1*1o0w0");
        writtenLines();
    }

    private static void writtenLines() {
        LampCooperative x = new LampCooperative();
        x.addLamp(3, 1);
        x.addLamp(2, 1);
        x.addLamp(0, 1);
        due("writeLamp(0)", x.writeLamp(0), 9);
        due("line", line(x), "0:3*1o0w0");
        x.deliverOil(45);
        x.donateWicks(4);
        x.giveWick(2, 4);
        x.setBrightness(2, 3);
        due("the line is kept", line(x), "0:3*1o0w0");
        due("writeLamp(2)", x.writeLamp(2), 10);
        due("line", line(x), "2:0*3o15w4");
        x.switchOff(2);
        due("writeLamp(2)", x.writeLamp(2), 11);
        due("line", line(x), "2:0*3o15w4!");
        due("writeLamp(1)", x.writeLamp(1), 10);
        due("line", line(x), "1:2*1o15w0");
        refusedAll(x, "writeLamp(..)", INDEX, x::writeLamp, -1, 3, 8, Integer.MIN_VALUE, Integer.MAX_VALUE);
        x.save();
        x.writeLamp(0);
        x.undo();
        due("the line after undo", line(x), "0:3*1o15w0");
        x.restore();
        due("the line after restore", line(x), "0:3*1o15w0");
    }

    private static void promise49() {
        LampCooperative x = withLamps(7);
        refusedAll(x, "lineAt(..) of the empty line", INDEX, x::lineAt, 0, -1, 1, Integer.MIN_VALUE, Integer.MAX_VALUE);
        x.writeLamp(0);
        String line = "0:0*1o0w0";
        for (int index = 0; index < line.length(); index++) {
            due("lineAt(" + index + ")", x.lineAt(index), line.charAt(index));
        }
        refusedAll(x, "lineAt(..)", INDEX, x::lineAt, -1, 9, 10, Integer.MIN_VALUE, Integer.MAX_VALUE);
    }

    private static void promise50() {
        LampCooperative x = new LampCooperative();
        refused(x, "meanOil()", ARITHMETIC, x::meanOil);
        x.addLamp(0, 1);
        due("meanOil()", x.meanOil(), 0.0);
        x.addLamp(0, 1);
        x.addLamp(0, 1);
        x.deliverOil(50);
        due("meanOil()", x.meanOil(), 50.0 / 3.0);
        x.removeLamp(0);
        due("meanOil()", x.meanOil(), 16.5);
    }

    private static void promise51() {
        LampCooperative x = twoStreets();
        for (int moth = 0; moth < 6; moth++) {
            x.addMoth(moth % 3);
        }
        x.moveMoth(0, -1);
        x.save();
        for (int night = 0; night < 7; night++) {
            due("burnNight()", x.burnNight() >= 0, true);
            due("isBalanced()", x.isBalanced(), true);
            x.deliverOil(100);
            due("isBalanced()", x.isBalanced(), true);
        }
        x.moveMoth(0, 2);
        x.donateWicks(30);
        x.giveWick(2, 9);
        x.burnNight();
        due("isBalanced() after a meal", x.isBalanced(), true);
        x.payDividend();
        due("isBalanced()", x.isBalanced(), true);
        x.buyOil(2, 5);
        due("isBalanced()", x.isBalanced(), true);
        x.removeLamp(2);
        due("isBalanced()", x.isBalanced(), true);
        x.undo();
        due("isBalanced() after undo", x.isBalanced(), true);
        x.restore();
        due("isBalanced() after restore", x.isBalanced(), true);
    }

    private static void promise52() {
        LampCooperative x = new LampCooperative();
        for (char character : new char[] {0, 31, 127, 128, 255, '\u0100', '\u0120', '\uffff'}) {
            refused(x, "type((char) " + (int) character + ")", ARGUMENT, () -> x.type(character));
        }
        due("type(' ')", x.type(' '), 1);
        due("type('~')", x.type('~'), 2);
        for (int length = 3; length <= 60; length++) {
            due("type", x.type((char) (32 + length)), length);
        }
        refused(x, "type('a') into a full buffer", STATE, () -> x.type('a'));
        refused(x, "type((char) 31) into a full buffer", ARGUMENT, () -> x.type((char) 31));
        refused(x, "type((char) 127) into a full buffer", ARGUMENT, () -> x.type((char) 127));
        refused(x, "execute()", ARGUMENT, x::execute);
        due("type", x.type('n'), 1);
        // The buffer is no part of the state that is saved, restored or undone.
        x.save();
        due("type", x.type('i'), 2);
        x.burnNight();
        due("type", x.type('g'), 3);
        x.undo();
        due("type", x.type('h'), 4);
        x.restore();
        due("type", x.type('t'), 5);
        due("execute()", x.execute(), 1);
        due("type", x.type('n'), 1);
    }

    private static void promise53() {
        LampCooperative x = new LampCooperative();
        due("execute", run(x, "lamp 1 3;lamp 2 2;oil 200;wick 30;give 0 9;give 1 4"), 6);
        due("view", view(x), "0: street 1 shares 3 brightness 1 on true oil 60 wick 9 balance 0\n"
                + "1: street 2 shares 2 brightness 1 on true oil 60 wick 4 balance 0\n"
                + "reserve 80 pool 17 treasury 0 nights 0 line ");
        due("execute", run(x, "bright 0 2;moth 1;moth 0;off 1;cap 1;night;pay;night;on 1"), 9);
        due("view", view(x), "0: street 1 shares 3 brightness 2 on true oil 56 wick 7 balance 5\n"
                + "1: street 2 shares 2 brightness 1 on true oil 60 wick 4 balance 4\n"
                + "moth 0 at 1 strikes 0 probation 1 member false\n"
                + "reserve 80 pool 17 treasury 9 nights 2 line ");
        due("execute", run(x, "buy 0 4;cap 1;bright 1 5;cap 3;remove 1"), 5);
        due("view", view(x), "0: street 1 shares 3 brightness 2 on true oil 60 wick 7 balance 1\n"
                + "moth 0 at -1 strikes 0 probation 1 member false\n"
                + "reserve 136 pool 21 treasury 17 nights 2 line ");
        due("isBalanced()", x.isBalanced(), true);
        due("undo()", x.undo(), 2);
        due("lampCount()", x.lampCount(), 2);
        due("undo()", x.undo(), 1);
        due("undo()", x.undo(), 0);
        due("lampCount()", x.lampCount(), 0);
        due("nightCount()", x.nightCount(), 0);
        due("execute of 10 nights", run(x, "night;night;night;night;night;night;night;night;night;night"), 10);
        due("nightCount()", x.nightCount(), 10);
        x.addLamp(0, 1);
        due("execute of 12 commands", run(x, "on 0;on 0;on 0;on 0;on 0;on 0;on 0;on 0;on 0;on 0;on 0;on 0"), 12);
        due("execute of short numbers", run(x, "oil 1;oil 01;oil 001;wick 7;wick 07;wick 007"), 6);
        due("oilOf(0)", x.oilOf(0), 3);
        due("pool()", x.pool(), 21);
        due("execute of 60 characters", run(x, "oil 001;oil 001;oil 001;oil 001;oil 01;oil 01;oil 01;oil 001"), 8);
        due("oilOf(0)", x.oilOf(0), 11);
        due("execute of a carried motion", run(x, "lamp 3 1;lamp 2 9;bright 0 5;bright 1 4;cap 2"), 5);
        due("brightnessOf(0)", x.brightnessOf(0), 2);
        due("brightnessOf(1)", x.brightnessOf(1), 2);
        due("brightnessOf(2)", x.brightnessOf(2), 1);
        failingTexts();
        commandsStandForTheirMethods();
    }

    /** A busy cooperative: a lamp that is off, a member, a moth with a strike, coins in balances and a reserve. */
    private static LampCooperative busy(int moths) {
        LampCooperative x = withLamps(3, 2, 4);
        x.burnNight();
        x.burnNight();
        x.payDividend();
        x.deliverOil(200);
        x.donateWicks(40);
        x.giveWick(0, 5);
        x.giveWick(1, 9);
        x.setBrightness(1, 5);
        x.setBrightness(2, 3);
        x.switchOff(0);
        x.addMoth(0);
        x.burnNight();
        x.burnNight();
        x.burnNight();
        x.moveMoth(0, 1);
        x.addMoth(1);
        x.burnNight();
        while (x.mothCount() < moths) {
            x.addMoth(2);
        }
        return x;
    }

    /** Each command alone, against the call of its method on an object with the same past. */
    private static void commandsStandForTheirMethods() {
        due("view", view(busy(3)), "0: street 0 shares 3 brightness 1 on false oil 60 wick 5 balance 8\n"
                + "1: street 1 shares 2 brightness 5 on true oil 23 wick 5 balance 5\n"
                + "2: street 2 shares 4 brightness 3 on true oil 60 wick 0 balance 11\n"
                + "moth 0 at 1 strikes 0 probation 0 member true\n"
                + "moth 1 at 1 strikes 1 probation 3 member false\n"
                + "moth 2 at 2 strikes 0 probation 3 member false\n"
                + "reserve 36 pool 26 treasury 36 nights 6 line ");
        same("lamp 0 5", x -> x.addLamp(0, 5));
        same("lamp 2 1", x -> x.addLamp(2, 1));
        same("remove 0", x -> x.removeLamp(0));
        same("remove 1", x -> x.removeLamp(1));
        same("oil 17", x -> x.deliverOil(17));
        same("oil 2", x -> x.deliverOil(2));
        same("wick 3", x -> x.donateWicks(3));
        same("wick 0", x -> x.donateWicks(0));
        same("give 2 1", x -> x.giveWick(2, 1));
        same("give 1 2", x -> x.giveWick(1, 2));
        same("bright 1 2", x -> x.setBrightness(1, 2));
        same("bright 2 1", x -> x.setBrightness(2, 1));
        same("bright 0 2", x -> x.setBrightness(0, 2));
        same("bright 0 0", x -> x.setBrightness(0, 0));
        same("on 0", x -> x.switchOn(0));
        same("on 1", x -> x.switchOn(1));
        same("on 3", x -> x.switchOn(3));
        same("off 0", x -> x.switchOff(0));
        same("off 1", x -> x.switchOff(1));
        same("off 3", x -> x.switchOff(3));
        same("moth 1", x -> x.addMoth(1));
        same("moth 3", x -> x.addMoth(3));
        same("cap 1", x -> x.proposeCap(1));
        same("cap 3", x -> x.proposeCap(3));
        same("cap 4", x -> x.proposeCap(4));
        same("night", LampCooperative::burnNight);
        same("pay", LampCooperative::payDividend);
        same("buy 1 2", x -> x.buyOil(1, 2));
        same("buy 2 1", x -> x.buyOil(2, 1));
        same("buy 0 60", x -> x.buyOil(0, 60));
        // A motion for cap 1 would be carried here: a moth at lamp 1 must not bring one.
        LampCooperative y = withLamps(1, 9);
        y.setBrightness(0, 3);
        due("execute", run(y, "moth 1"), 1);
        due("brightnessOf(0)", y.brightnessOf(0), 3);
    }

    private static void same(String text, java.util.function.Consumer<LampCooperative> call) {
        for (int moths = 2; moths <= 6; moths++) {
            LampCooperative byText = busy(moths);
            LampCooperative byCall = busy(moths);
            boolean possible = true;
            try {
                call.accept(byCall);
            } catch (RuntimeException e) {
                possible = false;
            }
            type(byText, text);
            if (possible) {
                due("execute of \"" + text + "\"", byText.execute(), 1);
            } else {
                refused(byText, "execute of \"" + text + "\"", STATE, byText::execute);
                due("failedCommand of \"" + text + "\"", byText.failedCommand(), 0);
            }
            due("the state after \"" + text + "\"", view(byText), view(byCall));
            due("isBalanced() after \"" + text + "\"", byText.isBalanced(), true);
            due("what can be undone after \"" + text + "\"", undoable(byText), undoable(byCall));
            due("the state before \"" + text + "\"", view(byText), view(byCall));
        }
    }

    /** Each command fails just as its method does, and takes back what came before it. */
    private static void failingTexts() {
        String[] failAtTheEnd = {"night;lamp 4 1", "lamp 0 0", "remove 2", "remove 1;remove 1", "oil 0", "oil 201",
            "oil 200;oil 999", "remove 0;remove 0;oil 1", "wick 000", "wick 51", "wick 50;wick 50", "give 0 1",
            "wick 50;give 0 0", "wick 50;give 0 9;give 0 1", "give 2 1", "bright 0 0", "bright 0 6", "bright 2 1",
            "on 2", "off 9", "moth 2", "moth 0;moth 0;moth 0;moth 0;moth 0;moth 0;moth 0", "cap 0", "cap 6",
            "remove 0;remove 0;cap 1", "pay", "night;pay;pay", "remove 0;remove 0;night;pay", "buy 2 1", "buy 0 0",
            "night;pay;buy 0 61", "night;pay;buy 0 1", "oil 200;buy 0 1"};
        for (String text : failAtTheEnd) {
            LampCooperative x = withLamps(1, 1);
            x.deliverOil(100);
            fails(x, text, text.split(";").length - 1);
            // A failed text is no modification.
            due("undo()", x.undo(), 2);
            due("oilOf(0)", x.oilOf(0), 0);
        }
        fails(withLamps(1, 1), "pay;".repeat(14) + "pay", 0);
        // A malformed text runs nothing, even if a command before the error would fail.
        malformed(withLamps(1, 1), "night;night;x", 12);
        malformed(withLamps(1, 1), "cap 0;x", 6);
    }

    private static void promise54() {
        LampCooperative x = withLamps(1);
        refused(x, "errorPosition()", NO_ELEMENT, x::errorPosition);
        due("execute", run(x, "night"), 1);
        type(x, "on 5");
        refused(x, "execute of a failing text", STATE, x::execute);
        refused(x, "errorPosition() after a failing text", NO_ELEMENT, x::errorPosition);
        refused(x, "execute of an empty text", ARGUMENT, x::execute);
        due("errorPosition()", x.errorPosition(), 0);
        for (String[] row : new String[][] {
                {" ", "0"}, {"x", "0"}, {";", "0"}, {"N", "0"}, {"0", "0"}, {" night", "0"},
                {"n", "1"}, {"nx", "1"}, {"nigh", "4"}, {"nighs", "4"}, {"nightt", "5"}, {"night ", "5"},
                {"night 1", "5"}, {"nightn", "5"}, {"nightnight", "5"}, {"on 1off 2", "4"}, {"oil 1pay", "5"},
                {"night;", "6"}, {"night;;", "6"}, {"night; pay", "6"}, {"night;x", "6"},
                {"night,pay", "5"}, {"o", "1"}, {"ox", "1"}, {"of", "2"}, {"of 1", "2"}, {"oi", "2"}, {"oil", "3"},
                {"oil ", "4"}, {"oil  1", "4"}, {"oil 1 ", "5"}, {"oil 1234", "7"}, {"oil 12x", "6"}, {"oil 1;", "6"},
                {"oil -1", "4"}, {"oill", "3"}, {"on", "2"}, {"one", "2"}, {"on ", "3"}, {"on 12", "4"}, {"on x", "3"},
                {"off", "3"}, {"off 1 2", "5"}, {"lamp 1", "6"}, {"lamp 1 ", "7"}, {"lamp 1 22", "8"},
                {"lamp 11 2", "6"}, {"lamp1 2", "4"}, {"lam", "3"}, {"lemp", "1"}, {"remove", "6"}, {"remove 0 1", "8"},
                {"remov 0", "5"}, {"wick", "4"}, {"wick 0000", "8"}, {"wack", "1"}, {"give 1;", "6"},
                {"give 1 2 3", "8"}, {"gi", "2"}, {"bright 1", "8"}, {"bright 1 23", "10"},
                {"bu", "2"}, {"buy 1", "5"}, {"buy 12", "5"},
                {"buy 1 ", "6"}, {"buy 1 1234", "9"}, {"buy 1 123 ", "9"}, {"b", "1"}, {"ba", "1"}, {"br", "2"},
                {"bry", "2"}, {"moth", "4"}, {"moth 12", "6"}, {"cap", "3"}, {"cap 1 2", "5"}, {"caps", "3"},
                {"p", "1"}, {"pa", "2"}, {"pays", "3"}, {"pay pay", "3"}, {"pay;pa", "6"}, {"pay;oil 1;nighty", "15"},
                {"~", "0"}, {"oil /", "4"}, {"oil :", "4"}, {"oil 1/", "5"}, {"oil 1:", "5"}}) {
            malformed(withLamps(1), row[0], Integer.parseInt(row[1]));
        }
        malformed(withLamps(1), "pay;".repeat(15), 60);
        malformed(withLamps(1), "night;".repeat(10), 60);
        malformed(withLamps(1), "pay;".repeat(14) + "payx", 59);
        malformed(x, "pay;x", 4);
        x.burnNight();
        x.undo();
        malformed(x, "nigh?", 4);
        due("execute", run(x, "night"), 1);
        due("errorPosition() after a good text", x.errorPosition(), 1);
        x.save();
        x.restore();
        due("errorPosition() after restore", x.errorPosition(), 1);
    }

    private static void promise55() {
        LampCooperative x = withLamps(1);
        refused(x, "failedCommand()", NO_ELEMENT, x::failedCommand);
        malformed(x, "x", 0);
        refused(x, "failedCommand()", NO_ELEMENT, x::failedCommand);
        due("execute", run(x, "night;night"), 2);
        refused(x, "failedCommand()", NO_ELEMENT, x::failedCommand);
        fails(x, "night;night;on 1;night", 2);
        due("execute", run(x, "night"), 1);
        malformed(x, "x", 0);
        due("failedCommand()", x.failedCommand(), 2);
        x.save();
        fails(x, "on 1;on 2", 0);
        x.undo();
        due("failedCommand() after undo", x.failedCommand(), 0);
        fails(x, "on 0;on 2", 1);
        x.restore();
        due("failedCommand() after restore", x.failedCommand(), 1);
    }

    private static LampCooperative modified(int times) {
        LampCooperative x = new LampCooperative();
        for (int number = 0; number < times; number++) {
            MODIFICATIONS.get(number).apply(x);
        }
        return x;
    }

    private static void promise56() {
        LampCooperative fresh = new LampCooperative();
        refused(fresh, "undo()", STATE, fresh::undo);
        for (int number = 0; number < MODIFICATIONS.size(); number++) {
            LampCooperative x = modified(number);
            String before = view(x);
            Function<LampCooperative, Object> modification = MODIFICATIONS.get(number);
            modification.apply(x);
            // Undo and the same call again leave as much to be undone.
            int undoable = Math.min(number + 1, 8);
            due("undo() of modification " + number, x.undo(), undoable - 1);
            due("view after undo", view(x), before);
            due("isBalanced()", x.isBalanced(), true);
            modification.apply(x);
            notModified(x);
            due("undo() of modification " + number + " again", x.undo(), undoable - 1);
            due("view after undo", stateView(x), stateView(modified(number)));
        }
        LampCooperative x = modified(MODIFICATIONS.size());
        for (int left = 7; left >= 0; left--) {
            due("undo()", x.undo(), left);
            due("view after undo", view(x), view(modified(MODIFICATIONS.size() - 8 + left)));
        }
        refused(x, "undo() of the ninth", STATE, x::undo);
        x.burnNight();
        due("undo()", x.undo(), 0);
    }

    /** Queries and refused calls are no modifications. */
    private static void notModified(LampCooperative x) {
        x.isBalanced();
        if (x.lampCount() > 0) {
            x.writeLamp(0);
        }
        x.save();
        refused(x, "setShares(8, 1)", INDEX, () -> x.setShares(8, 1));
        x.type('x');
        refused(x, "execute()", ARGUMENT, x::execute);
    }

    private static void promise57() {
        LampCooperative x = withLamps(1, 2);
        due("save()", x.save(), 2);
        x.addLamp(0, 3);
        due("save() over an earlier snapshot", x.save(), 3);
        x.removeLamp(0);
        due("undo() is still possible after save", x.undo(), 3);
        x.removeLamp(1);
        due("restore()", x.restore(), 3);
        due("sharesOf(1)", x.sharesOf(1), 2);
        due("sharesOf(2)", x.sharesOf(2), 3);
        due("save() without lamps", new LampCooperative().save(), 0);
    }

    private static void promise58() {
        LampCooperative x = supplied();
        refused(x, "restore()", STATE, x::restore);
        x.addMoth(1);
        x.addMoth(0);
        x.moveMoth(1, -1);
        x.burnNight();
        String early = view(x);
        x.burnNight();
        due("undo()", x.undo(), 7);
        due("view after undo", view(x), early);
        x.save();
        String saved = view(x);
        x.payDividend();
        x.burnNight();
        x.burnNight();
        x.removeLamp(0);
        x.removeLamp(0);
        due("restore()", x.restore(), 2);
        due("view", view(x), saved);
        refused(x, "undo() after restore", STATE, x::undo);
        due("isBalanced()", x.isBalanced(), true);
        x.switchOff(1);
        due("undo()", x.undo(), 0);
        x.setBrightness(0, 4);
        due("restore() once more", x.restore(), 2);
        due("view", view(x), saved);
        // The snapshot holds from before the first lamp.
        LampCooperative y = new LampCooperative();
        y.save();
        y.addLamp(0, 1);
        y.addMoth(0);
        due("restore()", y.restore(), 0);
        due("mothCount()", y.mothCount(), 0);
        // Undo goes back behind the save, the snapshot stays.
        y.addLamp(1, 1);
        y.save();
        due("undo()", y.undo(), 0);
        due("lampCount()", y.lampCount(), 0);
        due("restore()", y.restore(), 1);
        due("streetOf(0)", y.streetOf(0), 1);
    }

    /** The greatest numbers of lamps and moths, through every call that goes over all of them. */
    private static void fullHouse() {
        LampCooperative x = withLamps(9, 8, 7, 6, 5, 4, 3, 2);
        for (int moth = 0; moth < 6; moth++) {
            x.addMoth(7 - moth);
        }
        x.deliverOil(176);
        x.donateWicks(50);
        x.donateWicks(30);
        for (int lamp = 0; lamp < 8; lamp++) {
            x.giveWick(lamp, 9 - lamp);
            due("oilOf(" + lamp + ")", x.oilOf(lamp), 36 - 4 * lamp);
        }
        due("nightsOf(7)", x.nightsOf(7), 2);
        due("totalShares()", x.totalShares(), 44);
        due("votesFor(1)", x.votesFor(1), 44);
        due("lowestCap()", x.lowestCap(), 1);
        x.setBrightness(7, 5);
        due("proposeCap(4)", x.proposeCap(4), true);
        due("brightnessOf(7)", x.brightnessOf(7), 4);
        due("glowOf(3)", x.glowOf(3), 5);
        due("isDark(3)", x.isDark(3), false);
        due("brightestStreet()", x.brightestStreet(), 3);
        due("meanOil()", x.meanOil(), 22.0);
        due("isBalanced()", x.isBalanced(), true);
        x.switchOff(7);
        due("burnNight()", x.burnNight(), 7);
        x.switchOn(7);
        due("treasury()", x.treasury(), 0);
        due("burnNight()", x.burnNight(), 8);
        due("mothCount()", x.mothCount(), 1);
        due("lampOfMoth(0)", x.lampOfMoth(0), 7);
        due("strikesOf(0)", x.strikesOf(0), 1);
        due("probationOf(0)", x.probationOf(0), 2);
        for (int lamp = 0; lamp < 8; lamp++) {
            x.switchOff(lamp);
        }
        due("burnNight()", x.burnNight(), 0);
        due("payDividend()", x.payDividend(), 12);
        int[] coins = {2, 2, 2, 2, 1, 1, 1, 1};
        for (int lamp = 0; lamp < 8; lamp++) {
            due("balanceOf(" + lamp + ")", x.balanceOf(lamp), coins[lamp]);
            due("richestLamp(" + lamp + ")", x.richestLamp(lamp), lamp);
            due("longestLamp(" + lamp + ")", x.longestLamp(lamp), lamp);
        }
        for (int moth = 1; moth < 6; moth++) {
            x.addMoth(moth);
        }
        due("removeLamp(0)", x.removeLamp(0), 7);
        due("undo()", x.undo(), 7);
        due("removeLamp(7)", x.removeLamp(7), 7);
        due("lampOfMoth(0)", x.lampOfMoth(0), -1);
        due("lampOfMoth(5)", x.lampOfMoth(5), 5);
        due("isBalanced()", x.isBalanced(), true);
    }

    public static void main(String[] args) {
        Runnable[] tests = {
            LampCooperativePromises::promise1, LampCooperativePromises::promise2, LampCooperativePromises::promise3,
            LampCooperativePromises::promise4, LampCooperativePromises::promise5, LampCooperativePromises::promise6,
            LampCooperativePromises::promise7, LampCooperativePromises::promise8, LampCooperativePromises::promise9,
            LampCooperativePromises::promise10, LampCooperativePromises::promise11, LampCooperativePromises::promise12,
            LampCooperativePromises::promise13, LampCooperativePromises::promise14, LampCooperativePromises::promise15,
            LampCooperativePromises::promise16, LampCooperativePromises::promise17, LampCooperativePromises::promise18,
            LampCooperativePromises::promise19, LampCooperativePromises::promise20, LampCooperativePromises::promise21,
            LampCooperativePromises::promise22, LampCooperativePromises::promise23, LampCooperativePromises::promise24,
            LampCooperativePromises::promise25, LampCooperativePromises::promise26, LampCooperativePromises::promise27,
            LampCooperativePromises::promise28, LampCooperativePromises::promise29, LampCooperativePromises::promise30,
            LampCooperativePromises::promise31, LampCooperativePromises::promise32, LampCooperativePromises::promise33,
            LampCooperativePromises::promise34, LampCooperativePromises::promise35, LampCooperativePromises::promise36,
            LampCooperativePromises::promise37, LampCooperativePromises::promise38, LampCooperativePromises::promise39,
            LampCooperativePromises::promise40, LampCooperativePromises::promise41, LampCooperativePromises::promise42,
            LampCooperativePromises::promise43, LampCooperativePromises::promise44, LampCooperativePromises::promise45,
            LampCooperativePromises::promise46, LampCooperativePromises::promise47, LampCooperativePromises::promise48,
            LampCooperativePromises::promise49, LampCooperativePromises::promise50, LampCooperativePromises::promise51,
            LampCooperativePromises::promise52, LampCooperativePromises::promise53, LampCooperativePromises::promise54,
            LampCooperativePromises::promise55, LampCooperativePromises::promise56, LampCooperativePromises::promise57,
            LampCooperativePromises::promise58};
        for (int number = 1; number <= tests.length; number++) {
            check("promise " + number, tests[number - 1]);
        }
        check("a full house", LampCooperativePromises::fullHouse);
        finish("all promises hold");
    }
}
