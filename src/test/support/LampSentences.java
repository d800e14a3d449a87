/** Promises 1 to 15: a new object, the lamps and what is told of them. */
final class LampSentences extends SentenceTest {
    static void test() {
        newObject();
        manyCalls();
        addLamp();
        numbers();
        removeLamp();
        removedNumbers();
        setShares();
        setBrightness();
        switchOn();
        switchOff();
        lampCount();
        queries();
        coins();
        firstExceptions();
    }

    private static void newObject() {
        String created = "Creates a cooperative without lamps, moths, oil, wick and coins, at night 0.";
        sentence(1, created, () -> {
            LampCooperative x = new LampCooperative();
            due("view", view(x), "reserve 0 pool 0 treasury 0 nights 0 line ");
            due("lampCount()", x.lampCount(), 0);
            due("mothCount()", x.mothCount(), 0);
        });
        sentence(1, created, () -> {
            LampCooperative used = lived();
            LampCooperative x = new LampCooperative();
            due("view beside a used object", view(x), "reserve 0 pool 0 treasury 0 nights 0 line ");
            x.addLamp(3, 9);
            x.burnNight();
            due("lampCount() of the used object", used.lampCount(), 2);
            due("nightCount() of the used object", used.nightCount(), 1);
        });
    }

    private static void manyCalls() {
        String calls = "An object is used for at most 512 calls after it has been made";
        sentence(35, calls, () -> {
            LampCooperative x = new LampCooperative();
            for (int call = 1; call < 512; call++) {
                x.burnNight();
            }
            due("nightCount() as the call 512", x.nightCount(), 511);
        });
        sentence(56, calls, () -> {
            LampCooperative x = withLamps(1);
            for (int call = 2; call < 512; call++) {
                x.switchOn(0);
            }
            due("undo() as the call 512", x.undo(), 7);
        });
        sentence(2, calls, () -> {
            LampCooperative x = new LampCooperative();
            for (int call = 1; call < 511; call += 2) {
                due("addLamp after " + call + " calls", x.addLamp(3, 9), 0);
                due("removeLamp(0)", x.removeLamp(0), 0);
            }
            due("addLamp as the call 511", x.addLamp(3, 9), 0);
            due("lampCount() as the call 512", x.lampCount(), 1);
        });
        sentence(27, calls, () -> {
            LampCooperative x = withLamps(1);
            for (int call = 2; call < 511; call += 2) {
                due("addMoth after " + call + " calls", x.addMoth(0), 0);
                x.undo();
            }
            due("addMoth as the call 512", x.addMoth(0), 0);
        });
        sentence(53, calls, () -> {
            LampCooperative x = new LampCooperative();
            String nights = "night;night;night;night;night;night;night;night;night;night";
            for (int text = 0; text < 8; text++) {
                due("execute", run(x, nights), 10);
            }
            x.addLamp(0, 1);
            due("payDividend() of 80 nights", x.payDividend(), 960);
        });
    }

    private static void addLamp() {
        sentence(2, "Adds a lamp.", () -> {
            LampCooperative x = new LampCooperative();
            x.addLamp(2, 5);
            due("stateView", stateView(x), "0: street 2 shares 5 brightness 1 on true oil 0 wick 0 balance 0\n"
                    + "reserve 0 pool 0 treasury 0 nights 0");
        });
        sentence(2, "`street`: its street, 0 to 3", () -> {
            LampCooperative x = new LampCooperative();
            for (int street = 0; street <= 3; street++) {
                due("addLamp", x.addLamp(street, 1), street);
                due("streetOf", x.streetOf(street), street);
            }
        });
        sentence(2, "`shares`: its shares, 1 to 9", () -> {
            for (int shares = 1; shares <= 9; shares++) {
                LampCooperative x = new LampCooperative();
                due("addLamp", x.addLamp(0, shares), 0);
                due("sharesOf(0)", x.sharesOf(0), shares);
            }
        });
        sentence(2, "Returns the number of the lamp.", () -> {
            LampCooperative x = new LampCooperative();
            for (int lamp = 0; lamp < 8; lamp++) {
                due("addLamp", x.addLamp(3, 9), lamp);
            }
            x.removeLamp(0);
            due("addLamp after a removal", x.addLamp(0, 1), 7);
            x.undo();
            due("addLamp after an undo", x.addLamp(0, 1), 7);
        });
        String range = "Throws `IllegalArgumentException` if the street or the number of shares is out of range";
        sentence(2, range, () -> {
            NumberedCall call = (x, street) -> x.addLamp(street, 1);
            refusesNumbers(LampCooperative::new, "the street in addLamp", ARGUMENT, call, outside(0, 3));
            refusesNumbers(SentenceTest::lived, "the street in addLamp", ARGUMENT, call, outside(0, 3));
        });
        sentence(2, range, () -> {
            NumberedCall call = (x, shares) -> x.addLamp(0, shares);
            refusesNumbers(LampCooperative::new, "the shares in addLamp", ARGUMENT, call, outside(1, 9));
            refusesNumbers(SentenceTest::lived, "the shares in addLamp", ARGUMENT, call, outside(1, 9));
        });
        sentence(2, "Throws `IllegalStateException` if there are 8 lamps", () -> {
            refusedAlike(SentenceTest::eightLamps, "the ninth addLamp", STATE, x -> x.addLamp(0, 1));
            refusedAlike(SentenceTest::fullHouse, "the ninth addLamp", STATE, x -> x.addLamp(3, 9));
            LampCooperative x = eightLamps();
            x.removeLamp(7);
            due("the eighth addLamp after a removal", x.addLamp(0, 1), 7);
        });
    }

    private static void numbers() {
        sentence(2, "There are at most 8 lamps, numbered from 0 in the order in which they were added.", () -> {
            LampCooperative x = new LampCooperative();
            for (int lamp = 0; lamp < 8; lamp++) {
                due("addLamp", x.addLamp(lamp % 4, lamp + 2), lamp);
            }
            refused(x, "the ninth addLamp", STATE, () -> x.addLamp(0, 1));
            due("lampCount()", x.lampCount(), 8);
            for (int lamp = 0; lamp < 8; lamp++) {
                due("sharesOf(" + lamp + ")", x.sharesOf(lamp), lamp + 2);
            }
        });
        sentence(2, "has a brightness from 1 to 5 (initially 1), a tank with 0 to 60 units of oil (initially 0), "
                + "0 to 9 units of wick (initially 0), and a balance in coins (initially 0).", () -> {
            LampCooperative x = eightLamps();
            x.setBrightness(7, 5);
            x.switchOff(7);
            x.removeLamp(7);
            x.addLamp(3, 9);
            due("brightnessOf(7) in the place of another", x.brightnessOf(7), 1);
            due("oilOf(7)", x.oilOf(7), 0);
            due("wickOf(7)", x.wickOf(7), 0);
            due("balanceOf(7)", x.balanceOf(7), 0);
        });
        sentence(12, "A lamp is switched on or off (initially on).", () -> {
            LampCooperative x = withLamps(1);
            due("isOn(0)", x.isOn(0), true);
            x.switchOff(0);
            x.removeLamp(0);
            x.addLamp(0, 1);
            due("isOn(0) in the place of one that was off", x.isOn(0), true);
        });
    }

    private static void removeLamp() {
        sentence(3, "Removes a lamp.", () -> {
            LampCooperative x = withLamps(6);
            x.removeLamp(0);
            due("lampCount() after the only one", x.lampCount(), 0);
            due("totalShares()", x.totalShares(), 0);
        });
        lampNumbers(3, "removeLamp", LampCooperative::removeLamp);
        String legacy = "Its oil is added to the reserve, its wick to the pool, and its balance to the treasury.";
        sentence(3, legacy, () -> {
            LampCooperative x = withLamps(1);
            x.removeLamp(0);
            due("stateView after a lamp without anything", stateView(x), "reserve 0 pool 0 treasury 0 nights 0");
        });
        sentence(3, legacy, () -> {
            LampCooperative x = withLamps(1);
            x.burnNight();
            x.payDividend();
            x.burnNight();
            x.deliverOil(61);
            x.donateWicks(10);
            x.giveWick(0, 9);
            x.removeLamp(0);
            due("stateView after a lamp with all", stateView(x), "reserve 61 pool 10 treasury 24 nights 2");
        });
        sentence(3, "Moths that circle it circle no lamp afterwards.", () -> {
            LampCooperative x = withLamps(1, 1);
            for (int moth = 0; moth < 6; moth++) {
                x.addMoth(moth == 3 ? 0 : 1);
            }
            x.removeLamp(1);
            for (int moth = 0; moth < 6; moth++) {
                due("lampOfMoth(" + moth + ")", x.lampOfMoth(moth), moth == 3 ? 0 : -1);
            }
            x.addLamp(1, 1);
            due("lampOfMoth(0) with a new lamp 1", x.lampOfMoth(0), -1);
        });
        sentence(3, "Returns the number of lamps that are left.", () -> {
            LampCooperative x = withLamps(1, 2, 3, 4, 5, 6, 7, 8);
            for (int left = 7; left >= 0; left--) {
                due("removeLamp", x.removeLamp(left / 2), left);
            }
        });
        String pool = "Throws `IllegalStateException` if the pool would contain more than 99 units of wick";
        sentence(3, pool, () -> {
            refusedAlike(() -> holding(5, 95), "removeLamp to a pool of 100", STATE, x -> x.removeLamp(0));
            refusedAlike(() -> holding(9, 99), "removeLamp to a pool of 108", STATE, x -> x.removeLamp(0));
            refusedAlike(() -> holding(1, 99), "removeLamp to a pool of 100", STATE, x -> x.removeLamp(0));
        });
        sentence(3, pool, () -> {
            LampCooperative x = holding(5, 94);
            due("removeLamp to a pool of 99", x.removeLamp(0), 1);
            due("pool()", x.pool(), 99);
            due("removeLamp of a lamp without wick", x.removeLamp(0), 0);
            due("pool()", x.pool(), 99);
        });
    }

    private static void removedNumbers() {
        String decrease = "When a lamp is removed, the numbers of the later lamps decrease by 1.";
        for (int removed = 0; removed < 8; removed++) {
            int gone = removed;
            sentence(3, decrease, () -> {
                LampCooperative x = eightLamps();
                for (int lamp = 0; lamp < 8; lamp += 2) {
                    x.setBrightness(lamp, 5 - lamp / 2);
                    x.switchOff(lamp);
                }
                String before = stateView(x);
                x.removeLamp(gone);
                String after = stateView(x);
                for (int lamp = 0; lamp < 7; lamp++) {
                    String due = before.split("\n")[lamp < gone ? lamp : lamp + 1].substring(1);
                    due("lamp " + lamp + " without " + gone, after.split("\n")[lamp], lamp + due);
                }
            });
        }
        sentence(3, decrease, () -> {
            LampCooperative x = fullHouse();
            x.moveMoth(0, 7);
            x.moveMoth(1, -1);
            x.removeLamp(3);
            int[] lamps = {6, -1, 2, -1, 3, 4};
            for (int moth = 0; moth < 6; moth++) {
                due("lampOfMoth(" + moth + ")", x.lampOfMoth(moth), lamps[moth]);
            }
        });
    }

    private static void setShares() {
        sentence(4, "Sets the shares of a lamp.", () -> {
            LampCooperative x = withLamps(3, 4, 5);
            x.setShares(1, 9);
            due("shares", x.sharesOf(0) + " " + x.sharesOf(1) + " " + x.sharesOf(2), "3 9 5");
        });
        lampNumbers(4, "setShares", (x, lamp) -> x.setShares(lamp, 1));
        sentence(4, "`shares`: the new number of shares, 1 to 9", () -> {
            LampCooperative x = withLamps(5);
            for (int shares = 1; shares <= 9; shares++) {
                x.setShares(0, shares);
                due("sharesOf(0)", x.sharesOf(0), shares);
            }
        });
        sentence(4, "Returns the previous number of shares.", () -> {
            LampCooperative x = withLamps(1);
            due("setShares(0, 9)", x.setShares(0, 9), 1);
            due("setShares(0, 9) again", x.setShares(0, 9), 9);
            due("setShares(0, 1)", x.setShares(0, 1), 9);
        });
        sentence(4, "Throws `IllegalArgumentException` if the number of shares is out of range", () ->
            refusesNumbers(SentenceTest::lived, "the shares in setShares", ARGUMENT,
                    (x, shares) -> x.setShares(1, shares), outside(1, 9)));
        sentence(4, "owns 1 to 9 shares", () -> {
            LampCooperative x = withLamps(9);
            refused(x, "setShares(0, 10)", ARGUMENT, () -> x.setShares(0, 10));
            x.setShares(0, 1);
            refused(x, "setShares(0, 0)", ARGUMENT, () -> x.setShares(0, 0));
        });
    }

    private static void setBrightness() {
        sentence(5, "Sets the brightness of a lamp.", () -> {
            LampCooperative x = withLamps(1, 1, 1);
            x.setBrightness(1, 4);
            due("brightness", x.brightnessOf(0) + " " + x.brightnessOf(1) + " " + x.brightnessOf(2), "1 4 1");
        });
        lampNumbers(5, "setBrightness", (x, lamp) -> x.setBrightness(lamp, 1));
        sentence(5, "`brightness`: the new brightness, 1 to 5", () -> {
            LampCooperative x = withLamps(1);
            for (int brightness = 5; brightness >= 1; brightness--) {
                x.setBrightness(0, brightness);
                due("brightnessOf(0)", x.brightnessOf(0), brightness);
            }
        });
        sentence(5, "Returns the previous brightness.", () -> {
            LampCooperative x = withLamps(1);
            due("setBrightness(0, 5)", x.setBrightness(0, 5), 1);
            due("setBrightness(0, 5) again", x.setBrightness(0, 5), 5);
            due("setBrightness(0, 1)", x.setBrightness(0, 1), 5);
        });
        sentence(5, "Throws `IllegalArgumentException` if the brightness is out of range", () ->
            refusesNumbers(SentenceTest::lived, "the brightness in setBrightness", ARGUMENT,
                    (x, brightness) -> x.setBrightness(0, brightness), outside(1, 5)));
        sentence(5, "has a brightness from 1 to 5 (initially 1)", () -> {
            LampCooperative x = withLamps(1);
            due("brightnessOf(0)", x.brightnessOf(0), 1);
            refused(x, "setBrightness(0, 0)", ARGUMENT, () -> x.setBrightness(0, 0));
            x.setBrightness(0, 5);
            refused(x, "setBrightness(0, 6)", ARGUMENT, () -> x.setBrightness(0, 6));
        });
    }

    private static void switchOn() {
        sentence(6, "Switches a lamp on.", () -> {
            LampCooperative x = withLamps(1, 1);
            x.switchOff(0);
            x.switchOff(1);
            x.switchOn(1);
            due("isOn(0)", x.isOn(0), false);
            due("isOn(1)", x.isOn(1), true);
            x.switchOn(1);
            due("isOn(1) when switched on twice", x.isOn(1), true);
        });
        lampNumbers(6, "switchOn", LampCooperative::switchOn);
        sentence(6, "Returns whether the lamp was off before.", () -> {
            LampCooperative x = withLamps(1);
            due("switchOn(0) of a new lamp", x.switchOn(0), false);
            x.switchOff(0);
            due("switchOn(0) of a lamp that is off", x.switchOn(0), true);
            due("switchOn(0) of a lamp that is on", x.switchOn(0), false);
        });
    }

    private static void switchOff() {
        sentence(7, "Switches a lamp off.", () -> {
            LampCooperative x = withLamps(1, 1);
            x.switchOff(0);
            due("isOn(0)", x.isOn(0), false);
            due("isOn(1)", x.isOn(1), true);
            x.switchOff(0);
            due("isOn(0) when switched off twice", x.isOn(0), false);
        });
        lampNumbers(7, "switchOff", LampCooperative::switchOff);
        sentence(7, "Returns whether the lamp was on before.", () -> {
            LampCooperative x = withLamps(1);
            due("switchOff(0) of a lamp that is on", x.switchOff(0), true);
            due("switchOff(0) of a lamp that is off", x.switchOff(0), false);
        });
    }

    private static void lampCount() {
        sentence(8, "Returns the number of lamps.", () -> {
            LampCooperative x = new LampCooperative();
            for (int lamps = 0; lamps < 8; lamps++) {
                due("lampCount()", x.lampCount(), lamps);
                x.addLamp(0, 1);
            }
            due("lampCount() of all", x.lampCount(), 8);
            refused(x, "the ninth addLamp", STATE, () -> x.addLamp(0, 1));
            due("lampCount() after a refused addLamp", x.lampCount(), 8);
            x.removeLamp(0);
            due("lampCount() after a removal", x.lampCount(), 7);
        });
    }

    private static void queries() {
        query(9, "Returns the street of a lamp.", "Returns its street.", LampCooperative::streetOf,
                0, 1, 2, 3, 0, 1, 2, 3);
        query(10, "Returns the shares of a lamp.", "Returns its number of shares.", LampCooperative::sharesOf,
                9, 8, 7, 6, 5, 4, 3, 2);
        query(11, "Returns the brightness of a lamp.", "Returns its brightness.", LampCooperative::brightnessOf,
                1, 1, 1, 1, 1, 1, 1, 1);
        query(13, "Returns the oil in the tank of a lamp.", "Returns the units of oil.", LampCooperative::oilOf,
                36, 32, 28, 24, 20, 16, 12, 8);
        query(14, "Returns the wick of a lamp.", "Returns the units of wick.", LampCooperative::wickOf,
                1, 2, 3, 4, 5, 6, 7, 8);
        // 48 coins by 44 shares: the 4 units that are left go to the remainders 36, 32, 28 and 24.
        query(15, "Returns the balance of a lamp.", "Returns its coins.", LampCooperative::balanceOf,
                10, 9, 8, 7, 5, 4, 3, 2);
        lampNumbers(12, "isOn", LampCooperative::isOn);
        sentence(12, "Returns whether a lamp is switched on.", () -> {
            LampCooperative x = withLamps(1, 1);
            x.switchOff(1);
            due("isOn(0) without oil and wick", x.isOn(0), true);
            due("isOn(1)", x.isOn(1), false);
        });
        sentence(12, "Returns whether it is switched on.", () -> {
            LampCooperative x = withLamps(1, 1);
            x.switchOff(0);
            x.switchOn(0);
            x.switchOff(1);
            due("isOn(0)", x.isOn(0), true);
            x.removeLamp(0);
            due("isOn(0) of the lamp that was 1", x.isOn(0), false);
        });
        edgesOfQueries();
    }

    /** The lamps of a full house, all of them, and one that took the number of another. */
    private static void query(int promise, String description, String returned, NumberedCall asked, int... dues) {
        lampNumbers(promise, "the query", asked);
        sentence(promise, description, () -> {
            LampCooperative x = eightLamps();
            for (int lamp = 0; lamp < 8; lamp++) {
                due("lamp " + lamp, asked.on(x, lamp), dues[lamp]);
            }
        });
        sentence(promise, returned, () -> {
            LampCooperative x = eightLamps();
            x.removeLamp(0);
            due("the last lamp, now 6", asked.on(x, 6), dues[7]);
            x.undo();
            due("the last lamp, again 7", asked.on(x, 7), dues[7]);
            due("the first lamp", asked.on(x, 0), dues[0]);
        });
    }

    private static void edgesOfQueries() {
        sentence(9, "Each lamp belongs to one of the streets 0 to 3", () -> {
            LampCooperative x = new LampCooperative();
            x.addLamp(3, 1);
            x.addLamp(0, 1);
            due("streetOf(0)", x.streetOf(0), 3);
            due("streetOf(1)", x.streetOf(1), 0);
            refused(x, "addLamp(4, 1)", ARGUMENT, () -> x.addLamp(4, 1));
            refused(x, "addLamp(-1, 1)", ARGUMENT, () -> x.addLamp(-1, 1));
        });
        sentence(11, "Returns its brightness.", () -> {
            LampCooperative x = withLamps(1, 1);
            x.setBrightness(1, 5);
            due("brightnessOf(1)", x.brightnessOf(1), 5);
            x.proposeCap(5);
            due("brightnessOf(1) under a cap of 5", x.brightnessOf(1), 5);
            due("brightnessOf(0)", x.brightnessOf(0), 1);
        });
        sentence(13, "a tank with 0 to 60 units of oil (initially 0)", () -> {
            LampCooperative x = withLamps(1);
            due("oilOf(0)", x.oilOf(0), 0);
            x.deliverOil(60);
            due("oilOf(0) when full", x.oilOf(0), 60);
            x.deliverOil(200);
            due("oilOf(0) when overfull", x.oilOf(0), 60);
        });
        sentence(14, "0 to 9 units of wick (initially 0)", () -> {
            LampCooperative x = pooled(50, 1);
            due("wickOf(0)", x.wickOf(0), 0);
            x.giveWick(0, 9);
            refused(x, "giveWick(0, 1) to 10", STATE, () -> x.giveWick(0, 1));
            due("wickOf(0)", x.wickOf(0), 9);
            x.returnWick(0, 9);
            due("wickOf(0)", x.wickOf(0), 0);
        });
    }

    private static void coins() {
        sentence(15, "and a balance in coins (initially 0)", () -> {
            LampCooperative x = withLamps(1);
            due("balanceOf(0)", x.balanceOf(0), 0);
            for (int night = 0; night < 100; night++) {
                x.burnNight();
            }
            x.payDividend();
            due("balanceOf(0), which has no upper end", x.balanceOf(0), 1200);
        });
        sentence(15, "Returns its coins.", () -> {
            LampCooperative x = buyer(60, 0, 5);
            due("balanceOf(0)", x.balanceOf(0), 60);
            x.buyOil(0, 60);
            due("balanceOf(0) when all is spent", x.balanceOf(0), 0);
        });
    }

    private static void firstExceptions() {
        sentence(2, FIRST_EXCEPTION, () -> {
            refusesNumbers(SentenceTest::eightLamps, "the street in the ninth addLamp", ARGUMENT,
                    (x, street) -> x.addLamp(street, 1), outside(0, 3));
            refusesNumbers(SentenceTest::eightLamps, "the shares in the ninth addLamp", ARGUMENT,
                    (x, shares) -> x.addLamp(0, shares), outside(1, 9));
        });
        sentence(3, FIRST_EXCEPTION, () ->
            refusesNumbers(() -> holding(9, 99), "removeLamp before a full pool", INDEX,
                    LampCooperative::removeLamp, outside(0, 1)));
        sentence(4, FIRST_EXCEPTION, () -> {
            refusesNumbers(SentenceTest::lived, "setShares(.., 0)", INDEX, (x, lamp) -> x.setShares(lamp, 0),
                    outside(0, 1));
            refusesNumbers(SentenceTest::lived, "setShares(.., 10)", INDEX, (x, lamp) -> x.setShares(lamp, 10),
                    outside(0, 1));
        });
        sentence(5, FIRST_EXCEPTION, () -> {
            refusesNumbers(SentenceTest::lived, "setBrightness(.., 0)", INDEX,
                    (x, lamp) -> x.setBrightness(lamp, 0), outside(0, 1));
            refusesNumbers(SentenceTest::lived, "setBrightness(.., 6)", INDEX,
                    (x, lamp) -> x.setBrightness(lamp, 6), outside(0, 1));
        });
    }
}
