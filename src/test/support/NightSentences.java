/** Promises 34 to 41: nights, what burns in them and how bright the streets are. */
final class NightSentences extends SentenceTest {
    static void test() {
        burning();
        firstStep();
        strikes();
        probation();
        meals();
        thirdStep();
        fourthStep();
        nightCount();
        canBurn();
        nightsLeft(37, "nightsOf", LampCooperative::nightsOf);
        nightsLeft(38, "nightsBySimulation", LampCooperative::nightsBySimulation);
        sameNights();
        glowOf();
        isDark();
        brightestStreet();
    }

    /** Lamps in the streets 0, 1, 2, 3, 0 .. that can all burn for 5 nights, each at brightness 1. */
    private static LampCooperative burningLamps(int lamps) {
        LampCooperative x = new LampCooperative();
        for (int lamp = 0; lamp < lamps; lamp++) {
            x.addLamp(lamp % 4, 1);
        }
        x.deliverOil(20 * lamps);
        x.donateWicks(40);
        for (int lamp = 0; lamp < lamps; lamp++) {
            x.giveWick(lamp, 5);
        }
        return x;
    }

    private static void burning() {
        sentence(34, "Returns the number of lamps that burned.", () -> {
            due("burnNight() without lamps", new LampCooperative().burnNight(), 0);
            due("burnNight() of lamps without oil", withLamps(1, 1).burnNight(), 0);
            LampCooperative x = burningLamps(8);
            due("burnNight() of all lamps", x.burnNight(), 8);
            x.switchOff(0);
            due("burnNight() without one", x.burnNight(), 7);
        });
        sentence(34, "In a night in which it burns it uses as many units of oil as its brightness, "
                + "and 1 unit of wick.", () -> {
            for (int brightness = 1; brightness <= 5; brightness++) {
                LampCooperative x = oneLamp(60, 9, brightness);
                x.burnNight();
                due("oilOf(0) at brightness " + brightness, x.oilOf(0), 60 - brightness);
                due("wickOf(0)", x.wickOf(0), 8);
            }
        });
        sentence(34, "No lamp burns what it does not have.", () -> {
            LampCooperative x = oneLamp(9, 9, 5);
            due("burnNight() with 9 units of oil for 5", x.burnNight(), 1);
            due("burnNight() with 4 units of oil for 5", x.burnNight(), 0);
            due("oilOf(0)", x.oilOf(0), 4);
            due("wickOf(0)", x.wickOf(0), 8);
        });
        sentence(34, "No lamp burns what it does not have.", () -> {
            LampCooperative x = oneLamp(60, 9, 1);
            for (int night = 0; night < 9; night++) {
                due("burnNight()", x.burnNight(), 1);
            }
            due("burnNight() without wick", x.burnNight(), 0);
            due("wickOf(0)", x.wickOf(0), 0);
            due("oilOf(0)", x.oilOf(0), 51);
        });
        sentence(34, "No lamp burns what it does not have.", () -> {
            LampCooperative x = withLamps(1, 9);
            x.deliverOil(10);
            x.donateWicks(50);
            x.giveWick(0, 9);
            due("burnNight() with 1 unit of oil", x.burnNight(), 1);
            due("burnNight() with no oil", x.burnNight(), 0);
            due("oilOf(0)", x.oilOf(0), 0);
            due("oilOf(1) without wick", x.oilOf(1), 9);
        });
    }

    private static void firstStep() {
        sentence(34, "Lets a night pass.", () -> {
            LampCooperative x = new LampCooperative();
            x.burnNight();
            due("stateView without lamps and moths", stateView(x), "reserve 0 pool 0 treasury 12 nights 1");
        });
        sentence(34, "A night consists of four steps.", () -> {
            LampCooperative x = members(1);
            x.addMoth(0);
            x.deliverOil(9);
            x.donateWicks(9);
            x.giveWick(0, 9);
            x.burnNight();
            x.burnNight();
            // The oil of two flames and two meals; the struck moth has left; two nights with three dark streets.
            due("stateView", stateView(x), "0: street 0 shares 1 brightness 1 on true oil 5 wick 7 balance 0\n"
                    + "moth 0 at 0 strikes 0 probation 0 member true\n"
                    + "reserve 0 pool 0 treasury 54 nights 5");
        });
        sentence(34, "First, all lamps that can burn do burn.", () -> {
            LampCooperative x = burningLamps(8);
            for (int lamp = 0; lamp < 8; lamp++) {
                x.setBrightness(lamp, lamp % 5 + 1);
            }
            x.switchOff(3);
            x.returnWick(6, 5);
            due("burnNight()", x.burnNight(), 6);
            int[] oil = {19, 18, 17, 20, 15, 19, 20, 17};
            for (int lamp = 0; lamp < 8; lamp++) {
                due("oilOf(" + lamp + ")", x.oilOf(lamp), oil[lamp]);
            }
        });
    }

    private static void strikes() {
        String strike = "a moth on probation that circles a burning lamp gets a strike;";
        sentence(34, strike, () -> {
            LampCooperative x = burningLamps(2);
            x.switchOff(1);
            x.addMoth(0);
            x.addMoth(1);
            x.addMoth(0);
            x.moveMoth(2, -1);
            x.burnNight();
            due("strikesOf(0) at a burning lamp", x.strikesOf(0), 1);
            due("probationOf(0)", x.probationOf(0), 3);
            due("strikesOf(1) at a lamp that is off", x.strikesOf(1), 0);
            due("strikesOf(2) at no lamp", x.strikesOf(2), 0);
        });
        sentence(34, strike, () -> {
            LampCooperative x = burningLamps(1);
            x.addMoth(0);
            x.switchOff(0);
            x.burnNight();
            x.burnNight();
            due("probationOf(0)", x.probationOf(0), 1);
            x.switchOn(0);
            x.burnNight();
            due("strikesOf(0) in the last night of probation", x.strikesOf(0), 1);
            due("isMember(0)", x.isMember(0), false);
            due("oilOf(0)", x.oilOf(0), 19);
        });
        String counts = "In the second and the fourth step of a night, a lamp counts as burning if it burned "
                + "in the first step, even if it used its last oil or wick.";
        sentence(34, counts, () -> {
            LampCooperative x = oneLamp(5, 9, 5);
            x.addMoth(0);
            due("burnNight() with the last oil", x.burnNight(), 1);
            due("oilOf(0)", x.oilOf(0), 0);
            due("strikesOf(0)", x.strikesOf(0), 1);
            due("treasury()", x.treasury(), 9);
        });
        sentence(34, counts, () -> {
            LampCooperative x = oneLamp(60, 1, 1);
            x.addMoth(0);
            due("burnNight() with the last wick", x.burnNight(), 1);
            due("wickOf(0)", x.wickOf(0), 0);
            due("strikesOf(0)", x.strikesOf(0), 1);
            due("treasury()", x.treasury(), 9);
        });
        sentence(34, counts, () -> {
            LampCooperative x = oneLamp(4, 9, 5);
            x.addMoth(0);
            x.burnNight();
            due("strikesOf(0) at a lamp with too little oil", x.strikesOf(0), 0);
            due("treasury()", x.treasury(), 12);
        });
    }

    private static void probation() {
        String less = "any other moth on probation has one night less left, "
                + "and becomes a member when no night is left;";
        sentence(34, less, () -> {
            LampCooperative x = withLamps(1);
            x.addMoth(0);
            x.addMoth(0);
            x.moveMoth(1, -1);
            for (int left = 2; left > 0; left--) {
                x.burnNight();
                due("probationOf(0) at a dark lamp", x.probationOf(0), left);
                due("probationOf(1) at no lamp", x.probationOf(1), left);
                due("isMember(0)", x.isMember(0), false);
            }
            x.burnNight();
            due("isMember(0) with no night left", x.isMember(0), true);
            due("isMember(1) with no night left", x.isMember(1), true);
        });
        sentence(34, less, () -> {
            LampCooperative x = burningLamps(1);
            x.addMoth(0);
            x.burnNight();
            x.moveMoth(0, -1);
            x.burnNight();
            x.burnNight();
            due("probationOf(0) after 3 nights, one of them with a strike", x.probationOf(0), 1);
            x.burnNight();
            due("isMember(0)", x.isMember(0), true);
            x.moveMoth(0, 0);
            x.burnNight();
            due("mothCount() when a member is at a burning lamp", x.mothCount(), 1);
        });
        sentence(34, "A moth that becomes a member in a night does not eat in that night.", () -> {
            LampCooperative x = burningLamps(2);
            x.switchOff(0);
            x.addMoth(0);
            x.burnNight();
            x.burnNight();
            x.burnNight();
            due("isMember(0)", x.isMember(0), true);
            due("oilOf(0)", x.oilOf(0), 20);
            due("oilOf(1)", x.oilOf(1), 17);
            x.switchOn(0);
            x.burnNight();
            due("oilOf(0) with a meal in the next night", x.oilOf(0), 18);
        });
    }

    private static void meals() {
        String meal = "a member that circles a burning lamp eats 1 unit of oil of this lamp, if the lamp has any left.";
        sentence(34, meal, () -> {
            // Five units to eat for six members, and a dark lamp that nobody eats from.
            LampCooperative x = fed(6, 10, 5);
            x.addLamp(0, 1);
            due("burnNight()", x.burnNight(), 1);
            due("oilOf(0) after the meals", x.oilOf(0), 0);
            due("isBalanced()", x.isBalanced(), true);
            due("mothCount()", x.mothCount(), 6);
        });
        sentence(34, meal, () -> {
            LampCooperative x = fed(1, 5, 5);
            x.burnNight();
            due("oilOf(0) when the flame took the last oil", x.oilOf(0), 0);
            due("isBalanced()", x.isBalanced(), true);
            LampCooperative y = fed(1, 6, 5);
            y.burnNight();
            due("oilOf(0) when one unit was left", y.oilOf(0), 0);
            due("isBalanced()", y.isBalanced(), true);
            LampCooperative z = fed(1, 7, 5);
            z.burnNight();
            due("oilOf(0) when two units were left", z.oilOf(0), 1);
        });
        sentence(34, meal, () -> {
            LampCooperative x = fed(2, 9, 1);
            x.switchOff(0);
            x.moveMoth(1, -1);
            x.burnNight();
            due("oilOf(0) of a lamp that is off", x.oilOf(0), 9);
            x.switchOn(0);
            x.burnNight();
            due("oilOf(0) with one member at it and one at no lamp", x.oilOf(0), 7);
        });
        sentence(34, "Second, the moths act in the order of their numbers:", () -> {
            // The first two members eat what is left; the third moth, on probation, gets its strike all the same.
            LampCooperative x = fed(2, 7, 5);
            x.addMoth(0);
            x.burnNight();
            due("oilOf(0)", x.oilOf(0), 0);
            due("strikesOf(2)", x.strikesOf(2), 1);
            due("isBalanced()", x.isBalanced(), true);
        });
    }

    /** A lamp with so much oil and brightness, and members that circle it. */
    private static LampCooperative fed(int members, int oil, int brightness) {
        LampCooperative x = members(members);
        x.deliverOil(oil);
        x.donateWicks(9);
        x.giveWick(0, 9);
        x.setBrightness(0, brightness);
        return x;
    }

    private static void thirdStep() {
        sentence(34, "Third, all moths with 2 strikes leave.", () -> {
            LampCooperative x = burningLamps(1);
            for (int moth = 0; moth < 6; moth++) {
                x.addMoth(0);
            }
            x.burnNight();
            due("mothCount() with 1 strike each", x.mothCount(), 6);
            x.burnNight();
            due("mothCount() with 2 strikes each", x.mothCount(), 0);
        });
        sentence(34, "Third, all moths with 2 strikes leave.", () -> {
            LampCooperative x = burningLamps(2);
            for (int moth = 0; moth < 6; moth++) {
                x.addMoth(moth % 2);
            }
            x.burnNight();
            x.switchOff(1);
            x.burnNight();
            due("mothCount() with 1 strike for half of them", x.mothCount(), 3);
            for (int moth = 0; moth < 3; moth++) {
                due("lampOfMoth(" + moth + ")", x.lampOfMoth(moth), 1);
                due("strikesOf(" + moth + ")", x.strikesOf(moth), 1);
                due("probationOf(" + moth + ")", x.probationOf(moth), 2);
            }
        });
    }

    private static void fourthStep() {
        String subsidy = "Fourth, the treasury receives 3 coins for each street in which no lamp burned in this night.";
        sentence(34, subsidy, () -> {
            for (int lamps = 0; lamps <= 8; lamps++) {
                LampCooperative x = lamps == 0 ? new LampCooperative() : burningLamps(lamps);
                x.burnNight();
                due("treasury() with " + lamps + " lamps", x.treasury(), 3 * Math.max(0, 4 - lamps));
            }
        });
        sentence(34, subsidy, () -> {
            LampCooperative x = burningLamps(8);
            x.switchOff(3);
            x.burnNight();
            due("treasury() with one of two lamps off", x.treasury(), 0);
            x.switchOff(7);
            x.burnNight();
            due("treasury() with both lamps off", x.treasury(), 3);
        });
        sentence(34, subsidy, () -> {
            LampCooperative x = burningLamps(4);
            x.burnNight();
            x.removeLamp(2);
            x.burnNight();
            due("treasury() without the lamp of a street", x.treasury(), 3);
        });
    }

    private static void nightCount() {
        sentence(35, "Returns the number of nights that have passed.", () -> {
            LampCooperative x = new LampCooperative();
            for (int nights = 0; nights < 20; nights++) {
                due("nightCount()", x.nightCount(), nights);
                x.burnNight();
            }
        });
        sentence(35, "Returns the number of nights.", () -> {
            LampCooperative x = new LampCooperative();
            run(x, "night;night;night;night;night;night;night;night;night;night");
            due("nightCount() after a text of 10", x.nightCount(), 10);
            x.undo();
            due("nightCount() after an undo", x.nightCount(), 0);
            x.addLamp(0, 1);
            fails(x, "night;on 1", 1);
            due("nightCount() after a text that failed", x.nightCount(), 0);
        });
    }

    private static void canBurn() {
        lampNumbers(36, "canBurn", LampCooperative::canBurn);
        String can = "A lamp can burn if it is switched on, its oil is at least its brightness, "
                + "and it has at least 1 unit of wick.";
        sentence(36, can, () -> {
            for (int brightness = 1; brightness <= 5; brightness++) {
                due("canBurn(0) with just the oil", oneLamp(brightness, 1, brightness).canBurn(0), true);
                due("canBurn(0) with a unit less", oneLamp(brightness - 1, 1, brightness).canBurn(0), false);
            }
        });
        sentence(36, can, () -> {
            due("canBurn(0) without wick", oneLamp(60, 0, 1).canBurn(0), false);
            due("canBurn(0) with 1 unit of wick", oneLamp(60, 1, 1).canBurn(0), true);
        });
        sentence(36, "Returns whether a lamp can burn now.", () -> {
            LampCooperative x = oneLamp(2, 2, 1);
            due("canBurn(0)", x.canBurn(0), true);
            x.burnNight();
            due("canBurn(0) after a night", x.canBurn(0), true);
            x.burnNight();
            due("canBurn(0) when all is used", x.canBurn(0), false);
        });
        sentence(36, "Returns whether it can burn.", () -> {
            LampCooperative x = oneLamp(60, 9, 5);
            x.switchOff(0);
            due("canBurn(0) when off", x.canBurn(0), false);
            x.switchOn(0);
            due("canBurn(0) when on", x.canBurn(0), true);
        });
    }

    private static void nightsLeft(int promise, String call, NumberedCall asked) {
        lampNumbers(promise, call, asked);
        sentence(promise, "Returns the number of nights.", () -> {
            int[][] rows = {{0, 0, 1, 0}, {60, 0, 1, 0}, {0, 9, 1, 0}, {1, 9, 1, 1}, {60, 9, 1, 9}, {60, 1, 5, 1},
                {4, 9, 5, 0}, {5, 9, 5, 1}, {44, 9, 5, 8}, {45, 9, 5, 9}, {9, 9, 2, 4}, {8, 9, 3, 2}, {60, 9, 5, 9}};
            for (int[] row : rows) {
                due(call + "(0) with oil " + row[0] + ", wick " + row[1] + " at brightness " + row[2],
                        asked.on(oneLamp(row[0], row[1], row[2]), 0), row[3]);
            }
        });
        sentence(promise, "All divisions are integer divisions unless stated otherwise.", () ->
            due(call + "(0) with 19 units of oil at brightness 5", asked.on(oneLamp(19, 9, 5), 0), 3));
    }

    private static void sameNights() {
        sentence(37, "Returns the number of nights for which the oil and the wick of a lamp last at its present "
                + "brightness, by a formula.", () -> {
            LampCooperative x = oneLamp(20, 9, 1);
            int[] nights = {9, 9, 6, 5, 4};
            for (int brightness = 1; brightness <= 5; brightness++) {
                x.setBrightness(0, brightness);
                due("nightsOf(0) at brightness " + brightness, x.nightsOf(0), nights[brightness - 1]);
            }
            for (int left = 3; left >= 0; left--) {
                x.burnNight();
                due("nightsOf(0) after a night", x.nightsOf(0), left);
            }
        });
        sentence(37, "The lamp is treated as switched on, and moths are ignored.", () -> {
            LampCooperative x = fed(6, 20, 1);
            due("nightsOf(0) with six members", x.nightsOf(0), 9);
            x.switchOff(0);
            due("nightsOf(0) when off", x.nightsOf(0), 9);
            due("nightsBySimulation(0) when off", x.nightsBySimulation(0), 9);
        });
        sentence(38, "Returns the same as nightsOf, by simulating night after night.", () -> {
            for (int brightness = 1; brightness <= 5; brightness++) {
                for (int wick = 0; wick <= 9; wick += 3) {
                    for (int oil = 0; oil <= 60; oil++) {
                        LampCooperative x = oneLamp(oil, wick, brightness);
                        String before = stateView(x);
                        due("nightsBySimulation(0) with oil " + oil + ", wick " + wick + " at brightness " + brightness,
                                x.nightsBySimulation(0), x.nightsOf(0));
                        due("the state after nightsBySimulation", stateView(x), before);
                    }
                }
            }
        });
    }

    private static void glowOf() {
        streetNumbers(39, "glowOf", LampCooperative::glowOf);
        sentence(39, "The glow of a street is the sum of the brightness of its lamps that can burn.", () -> {
            LampCooperative x = new LampCooperative();
            for (int lamp = 0; lamp < 8; lamp++) {
                x.addLamp(3, 1);
                x.setBrightness(lamp, 5);
            }
            due("glowOf(3) of lamps that cannot burn", x.glowOf(3), 0);
            x.deliverOil(40);
            x.donateWicks(8);
            for (int lamp = 0; lamp < 8; lamp++) {
                x.giveWick(lamp, 1);
                due("glowOf(3)", x.glowOf(3), 5 * (lamp + 1));
            }
            x.switchOff(7);
            due("glowOf(3) with one lamp off", x.glowOf(3), 35);
        });
        sentence(39, "Returns the glow of a street.", () -> {
            LampCooperative x = eightLamps();
            x.setBrightness(4, 5);
            x.setBrightness(7, 3);
            due("glow", x.glowOf(0) + " " + x.glowOf(1) + " " + x.glowOf(2) + " " + x.glowOf(3), "6 2 2 4");
        });
        sentence(39, "Returns the glow.", () -> {
            LampCooperative x = new LampCooperative();
            for (int street = 0; street < 4; street++) {
                due("glowOf(" + street + ") without lamps", x.glowOf(street), 0);
            }
            LampCooperative y = oneLamp(5, 1, 5);
            due("glowOf(0) with just the oil", y.glowOf(0), 5);
            due("glowOf(1) of another street", y.glowOf(1), 0);
            y.burnNight();
            due("glowOf(0) when all is used", y.glowOf(0), 0);
        });
    }

    private static void isDark() {
        streetNumbers(40, "isDark", LampCooperative::isDark);
        sentence(40, "A street is dark if none of its lamps can burn.", () -> {
            LampCooperative x = burningLamps(8);
            due("isDark(3) with two lamps that can burn", x.isDark(3), false);
            x.switchOff(3);
            due("isDark(3) with one lamp that can burn", x.isDark(3), false);
            x.returnWick(7, 5);
            due("isDark(3) with none", x.isDark(3), true);
            due("isDark(2)", x.isDark(2), false);
        });
        sentence(40, "Returns whether a street is dark.", () -> {
            LampCooperative x = new LampCooperative();
            for (int street = 0; street < 4; street++) {
                due("isDark(" + street + ") without lamps", x.isDark(street), true);
            }
        });
        sentence(40, "Returns whether it is dark.", () -> {
            LampCooperative x = oneLamp(4, 1, 5);
            due("isDark(0) with too little oil", x.isDark(0), true);
            x.setBrightness(0, 4);
            due("isDark(0) with just the oil", x.isDark(0), false);
            due("isDark(1)", x.isDark(1), true);
            x.removeLamp(0);
            due("isDark(0) without its lamp", x.isDark(0), true);
        });
    }

    private static void brightestStreet() {
        String brightest = "Returns the street with the greatest glow, and the lowest one in case of a tie.";
        sentence(41, brightest, () -> {
            due("brightestStreet() without lamps", new LampCooperative().brightestStreet(), 0);
            LampCooperative x = withLamps(1, 1, 1, 1);
            due("brightestStreet() of lamps that cannot burn", x.brightestStreet(), 0);
            due("brightestStreet() of four alike", burningLamps(4).brightestStreet(), 0);
        });
        sentence(41, brightest, () -> {
            for (int street = 0; street < 4; street++) {
                LampCooperative x = burningLamps(4);
                x.setBrightness(street, 2);
                due("brightestStreet() with one brighter lamp", x.brightestStreet(), street);
                x.setBrightness(3, 2);
                due("brightestStreet() with another as bright", x.brightestStreet(), street);
            }
        });
        sentence(41, "Returns the street.", () -> {
            LampCooperative x = burningLamps(8);
            x.setBrightness(3, 5);
            x.setBrightness(7, 5);
            due("brightestStreet()", x.brightestStreet(), 3);
            x.switchOff(3);
            x.setBrightness(2, 5);
            due("brightestStreet() by the sum of its lamps", x.brightestStreet(), 2);
        });
    }
}
