/** Promises 16 to 26: oil, wicks, money and how they are apportioned. */
final class OilSentences extends SentenceTest {
    private interface Portion {
        int of(LampCooperative x, int lamp, int amount);
    }

    static void test() {
        deliverOil();
        refusedDeliveries();
        buyOil();
        refusedSales();
        donateWicks();
        giveWick();
        returnWick();
        payDividend();
        stores();
        portions(25, "portionOf", LampCooperative::portionOf);
        portions(26, "portionByRounds", LampCooperative::portionByRounds);
        bothPortions();
        shareOut(25, LampCooperative::portionOf);
        shareOut(26, LampCooperative::portionByRounds);
        firstExceptions();
    }

    private static String oil(LampCooperative x) {
        StringBuilder oil = new StringBuilder();
        for (int lamp = 0; lamp < x.lampCount(); lamp++) {
            oil.append(x.oilOf(lamp)).append(' ');
        }
        return oil.append("reserve ").append(x.reserve()).toString();
    }

    private static void deliverOil() {
        sentence(16, "Apportions a delivery of oil among all lamps.", () -> {
            LampCooperative one = withLamps(9);
            one.deliverOil(1);
            due("one lamp", oil(one), "1 reserve 0");
            LampCooperative x = withLamps(1, 1, 1, 1, 1, 1, 1, 1);
            x.deliverOil(15);
            due("eight equal lamps", oil(x), "2 2 2 2 2 2 2 1 reserve 0");
            x.switchOff(0);
            x.deliverOil(9);
            due("a lamp that is off gets its part", oil(x), "4 3 3 3 3 3 3 2 reserve 0");
        });
        String reserve = "What does not fit into the tank of a lamp is added to the reserve.";
        sentence(16, reserve, () -> {
            LampCooperative x = withLamps(1);
            x.deliverOil(59);
            x.deliverOil(1);
            due("a tank that is just full", oil(x), "60 reserve 0");
            x.deliverOil(1);
            due("one unit over", oil(x), "60 reserve 1");
            x.deliverOil(200);
            due("a full tank", oil(x), "60 reserve 201");
        });
        sentence(16, reserve, () -> {
            LampCooperative x = withLamps(9, 1);
            x.deliverOil(70);
            due("63 and 7", oil(x), "60 7 reserve 3");
        });
        sentence(16, "`amount`: the units of oil, 1 to 200", () -> {
            LampCooperative x = withLamps(1, 1, 1, 1);
            due("deliverOil(1)", x.deliverOil(1), 1);
            due("deliverOil(200)", x.deliverOil(200), 200);
            due("oil", oil(x), "51 50 50 50 reserve 0");
        });
        sentence(16, "Returns the units that were added to tanks.", () -> {
            LampCooperative x = withLamps(1, 1);
            due("deliverOil(119)", x.deliverOil(119), 119);
            due("deliverOil(2) with room for 1", x.deliverOil(2), 1);
            due("deliverOil(200) with room for none", x.deliverOil(200), 0);
        });
    }

    private static void refusedDeliveries() {
        String range = "Throws `IllegalArgumentException` if the amount is out of range";
        sentence(16, range, () -> {
            refusesNumbers(SentenceTest::lived, "deliverOil", ARGUMENT, LampCooperative::deliverOil, outside(1, 200));
            refusesNumbers(SentenceTest::lived, "deliverOil", ARGUMENT, LampCooperative::deliverOil, -1, 1000);
        });
        sentence(16, "Throws `IllegalStateException` if there are no lamps", () -> {
            refusesNumbers(LampCooperative::new, "deliverOil without lamps", STATE, LampCooperative::deliverOil,
                    1, 200);
            refusedAlike(() -> {
                LampCooperative x = withLamps(1);
                x.deliverOil(9);
                x.removeLamp(0);
                return x;
            }, "deliverOil after the last lamp", STATE, x -> x.deliverOil(1));
        });
    }

    private static void buyOil() {
        sentence(17, "Sells oil from the reserve to a lamp.", () -> {
            LampCooperative x = buyer(13, 0, 2);
            x.addLamp(1, 1);
            x.buyOil(0, 1);
            due("oil after the first sale", oil(x), "1 0 reserve 12");
            x.buyOil(0, 12);
            due("oil after the whole reserve", oil(x), "13 0 reserve 0");
        });
        sentence(17, "The lamp pays 1 coin for each unit into the treasury.", () -> {
            LampCooperative x = buyer(60, 0, 1);
            x.buyOil(0, 1);
            due("balanceOf(0)", x.balanceOf(0), 11);
            due("treasury()", x.treasury(), 1);
            x.buyOil(0, 11);
            due("balanceOf(0) when all is paid", x.balanceOf(0), 0);
            due("treasury()", x.treasury(), 12);
        });
        lampNumbers(17, "buyOil", (x, lamp) -> x.buyOil(lamp, 1));
        sentence(17, "`units`: the units of oil, 1 to 60", () -> {
            due("buyOil(0, 60)", buyer(60, 0, 5).buyOil(0, 60), 60);
            due("buyOil(0, 59)", buyer(60, 1, 5).buyOil(0, 59), 60);
            due("buyOil(0, 1)", buyer(60, 0, 5).buyOil(0, 1), 1);
        });
        sentence(17, "Returns the oil in the tank of the lamp afterwards.", () -> {
            LampCooperative x = buyer(60, 57, 1);
            due("buyOil(0, 1)", x.buyOil(0, 1), 58);
            due("buyOil(0, 2)", x.buyOil(0, 2), 60);
        });
    }

    private static void refusedSales() {
        sentence(17, "Throws `IllegalArgumentException` if the number of units is out of range", () ->
            refusesNumbers(() -> buyer(60, 0, 6), "the units in buyOil", ARGUMENT,
                    (x, units) -> x.buyOil(0, units), 0, -1, 61, 100, Integer.MIN_VALUE, Integer.MAX_VALUE));
        sentence(17, "Throws `IllegalStateException` if the reserve contains fewer units", () -> {
            refusedAlike(() -> buyer(0, 0, 1), "buyOil from no reserve", STATE, x -> x.buyOil(0, 1));
            refusedAlike(() -> buyer(5, 0, 1), "buyOil from too small a reserve", STATE, x -> x.buyOil(0, 6));
            LampCooperative x = buyer(5, 0, 1);
            due("buyOil of the whole reserve", x.buyOil(0, 5), 5);
            refused(x, "buyOil from the empty reserve", STATE, () -> x.buyOil(0, 1));
        });
        sentence(17, "or the tank lacks the room", () -> {
            refusedAlike(() -> buyer(60, 60, 1), "buyOil into a full tank", STATE, x -> x.buyOil(0, 1));
            refusedAlike(() -> buyer(60, 55, 1), "buyOil into too small a room", STATE, x -> x.buyOil(0, 6));
            refusedAlike(() -> buyer(60, 1, 5), "buyOil of 60 into a room of 59", STATE, x -> x.buyOil(0, 60));
            due("buyOil into the whole room", buyer(60, 55, 1).buyOil(0, 5), 60);
        });
        sentence(17, "or the balance of the lamp is smaller than the price", () -> {
            refusedAlike(() -> buyer(60, 0, 0), "buyOil without coins", STATE, x -> x.buyOil(0, 1));
            refusedAlike(() -> buyer(60, 0, 1), "buyOil with a coin too few", STATE, x -> x.buyOil(0, 13));
            due("buyOil with just enough coins", buyer(60, 0, 1).buyOil(0, 12), 12);
        });
        sentence(17, "or the balance of the lamp is smaller than the price", () -> {
            LampCooperative x = buyer(60, 4, 1);
            x.addLamp(0, 1);
            refused(x, "buyOil for the coins of another", STATE, () -> x.buyOil(1, 1));
            due("oil", oil(x), "4 0 reserve 60");
        });
    }

    private static void donateWicks() {
        sentence(18, "Adds wick to the pool.", () -> {
            LampCooperative x = new LampCooperative();
            x.donateWicks(50);
            x.donateWicks(49);
            due("pool() without lamps", x.pool(), 99);
        });
        sentence(18, "`units`: the units of wick, 1 to 50", () -> {
            LampCooperative x = new LampCooperative();
            due("donateWicks(1)", x.donateWicks(1), 1);
            due("donateWicks(50)", x.donateWicks(50), 51);
        });
        sentence(18, "Returns the units in the pool afterwards.", () -> {
            LampCooperative x = pooled(9, 1);
            x.giveWick(0, 9);
            due("donateWicks(1) to an empty pool", x.donateWicks(1), 1);
            x.returnWick(0, 9);
            due("donateWicks(1) after a return", x.donateWicks(1), 11);
        });
        sentence(18, "Throws `IllegalArgumentException` if the number of units is out of range", () -> {
            int[] outside = {0, -1, 51, 100, Integer.MIN_VALUE, Integer.MAX_VALUE};
            refusesNumbers(LampCooperative::new, "donateWicks", ARGUMENT, LampCooperative::donateWicks, outside);
            refusesNumbers(SentenceTest::lived, "donateWicks", ARGUMENT, LampCooperative::donateWicks, outside);
        });
        sentence(18, "Throws `IllegalStateException` if the pool would contain more than 99 units", () -> {
            refusedAlike(() -> pooled(99, 0), "donateWicks(1) to a pool of 99", STATE, x -> x.donateWicks(1));
            refusedAlike(() -> pooled(99, 0), "donateWicks(50) to a pool of 99", STATE, x -> x.donateWicks(50));
            refusedAlike(() -> pooled(50, 1), "donateWicks(50) to a pool of 50", STATE, x -> x.donateWicks(50));
            due("donateWicks(49) to a pool of 50", pooled(50, 0).donateWicks(49), 99);
            due("donateWicks(50) to a pool of 49", pooled(49, 0).donateWicks(50), 99);
            due("donateWicks(1) to a pool of 98", pooled(98, 0).donateWicks(1), 99);
        });
    }

    private static void giveWick() {
        sentence(19, "Moves wick from the pool to a lamp.", () -> {
            LampCooperative x = pooled(9, 2);
            x.giveWick(1, 9);
            due("wick and pool", x.wickOf(0) + " " + x.wickOf(1) + " " + x.pool(), "0 9 0");
        });
        lampNumbers(19, "giveWick", (x, lamp) -> x.giveWick(lamp, 1));
        sentence(19, "`units`: the units of wick, 1 to 9", () -> {
            due("giveWick(0, 1)", pooled(50, 1).giveWick(0, 1), 1);
            due("giveWick(0, 9)", pooled(50, 1).giveWick(0, 9), 9);
        });
        sentence(19, "Returns the wick of the lamp afterwards.", () -> {
            LampCooperative x = pooled(50, 1);
            due("giveWick(0, 8)", x.giveWick(0, 8), 8);
            due("giveWick(0, 1)", x.giveWick(0, 1), 9);
        });
        sentence(19, "Throws `IllegalArgumentException` if the number of units is out of range", () ->
            refusesNumbers(() -> pooled(50, 1), "the units in giveWick", ARGUMENT,
                    (x, units) -> x.giveWick(0, units), 0, -1, 10, 50, Integer.MIN_VALUE, Integer.MAX_VALUE));
        sentence(19, "Throws `IllegalStateException` if the pool contains fewer units", () -> {
            refusedAlike(() -> pooled(0, 1), "giveWick from an empty pool", STATE, x -> x.giveWick(0, 1));
            refusedAlike(() -> pooled(4, 1), "giveWick(0, 5) from a pool of 4", STATE, x -> x.giveWick(0, 5));
            due("giveWick(0, 4) from a pool of 4", pooled(4, 1).giveWick(0, 4), 4);
        });
        sentence(19, "or the lamp would have more than 9", () -> {
            refusedAlike(() -> holding(9, 50), "giveWick(0, 1) to a lamp with 9", STATE, x -> x.giveWick(0, 1));
            refusedAlike(() -> holding(4, 50), "giveWick(0, 6) to a lamp with 4", STATE, x -> x.giveWick(0, 6));
            refusedAlike(() -> holding(1, 50), "giveWick(0, 9) to a lamp with 1", STATE, x -> x.giveWick(0, 9));
            due("giveWick(0, 5) to a lamp with 4", holding(4, 50).giveWick(0, 5), 9);
        });
    }

    private static void returnWick() {
        sentence(20, "Moves wick from a lamp to the pool.", () -> {
            LampCooperative x = holding(9, 0);
            x.returnWick(0, 9);
            due("wick and pool", x.wickOf(0) + " " + x.wickOf(1) + " " + x.pool(), "0 0 9");
        });
        lampNumbers(20, "returnWick", (x, lamp) -> x.returnWick(lamp, 1));
        sentence(20, "`units`: the units of wick, 1 to 9", () -> {
            due("returnWick(0, 1)", holding(9, 5).returnWick(0, 1), 8);
            due("returnWick(0, 9)", holding(9, 5).returnWick(0, 9), 0);
        });
        sentence(20, "Returns the wick of the lamp afterwards.", () -> {
            LampCooperative x = holding(3, 0);
            due("returnWick(0, 2)", x.returnWick(0, 2), 1);
            due("returnWick(0, 1)", x.returnWick(0, 1), 0);
        });
        sentence(20, "Throws `IllegalArgumentException` if the number of units is out of range", () ->
            refusesNumbers(() -> holding(9, 0), "the units in returnWick", ARGUMENT,
                    (x, units) -> x.returnWick(0, units), 0, -1, 10, 50, Integer.MIN_VALUE, Integer.MAX_VALUE));
        sentence(20, "Throws `IllegalStateException` if the lamp has fewer units", () -> {
            refusedAlike(() -> pooled(50, 1), "returnWick of a lamp without wick", STATE, x -> x.returnWick(0, 1));
            refusedAlike(() -> holding(4, 0), "returnWick(0, 5) of a lamp with 4", STATE, x -> x.returnWick(0, 5));
            due("returnWick(0, 4) of a lamp with 4", holding(4, 0).returnWick(0, 4), 0);
        });
        sentence(20, "or the pool would contain more than 99", () -> {
            refusedAlike(() -> holding(1, 99), "returnWick(0, 1) to a pool of 99", STATE, x -> x.returnWick(0, 1));
            refusedAlike(() -> holding(9, 91), "returnWick(0, 9) to a pool of 91", STATE, x -> x.returnWick(0, 9));
            LampCooperative x = holding(9, 91);
            due("returnWick(0, 8) to a pool of 91", x.returnWick(0, 8), 1);
            due("pool()", x.pool(), 99);
        });
    }

    private static void payDividend() {
        sentence(21, "Pays the whole treasury as a dividend, which is apportioned among the balances "
                + "of all lamps.", () -> {
            LampCooperative x = withLamps(9, 8, 7, 6, 5, 4, 3, 2);
            x.burnNight();
            x.switchOff(0);
            x.payDividend();
            due("treasury()", x.treasury(), 0);
            // 12 coins by 44 shares: 8 whole coins, and the remainders 20, 8, 40, 28, 16, 4, 36 and 24 for the rest.
            int[] coins = {2, 2, 2, 2, 1, 1, 1, 1};
            for (int lamp = 0; lamp < 8; lamp++) {
                due("balanceOf(" + lamp + ")", x.balanceOf(lamp), coins[lamp]);
            }
        });
        sentence(21, "Pays the whole treasury as a dividend", () -> {
            LampCooperative x = buyer(0, 0, 100);
            due("balanceOf(0), more than any amount of portionOf", x.balanceOf(0), 1200);
            x.burnNight();
            x.payDividend();
            due("balanceOf(0), added to what it had", x.balanceOf(0), 1212);
        });
        sentence(21, "Returns the coins that were paid.", () -> {
            LampCooperative x = buyer(5, 0, 1);
            x.buyOil(0, 1);
            due("payDividend() of the smallest treasury", x.payDividend(), 1);
            due("balanceOf(0)", x.balanceOf(0), 12);
        });
        sentence(21, "Throws `IllegalStateException` if there are no lamps", () -> {
            refusedAlike(LampCooperative::new, "payDividend of nothing to nobody", STATE, LampCooperative::payDividend);
            refusedAlike(() -> {
                LampCooperative x = new LampCooperative();
                x.burnNight();
                return x;
            }, "payDividend to nobody", STATE, LampCooperative::payDividend);
        });
        sentence(21, "or the treasury is empty", () -> {
            refusedAlike(() -> withLamps(1), "payDividend of nothing", STATE, LampCooperative::payDividend);
            refusedAlike(() -> buyer(0, 0, 1), "payDividend a second time", STATE, LampCooperative::payDividend);
        });
    }

    private static void stores() {
        sentence(22, "Returns the oil in the reserve.", () -> {
            LampCooperative x = withLamps(1);
            due("reserve()", x.reserve(), 0);
            x.deliverOil(60);
            due("reserve() beside a full tank", x.reserve(), 0);
            x.deliverOil(1);
            due("reserve() with one unit over", x.reserve(), 1);
        });
        sentence(22, "Returns the units of oil.", () -> {
            LampCooperative x = withLamps(1);
            for (int delivery = 0; delivery < 20; delivery++) {
                x.deliverOil(200);
            }
            due("reserve(), which has no upper end", x.reserve(), 3940);
        });
        sentence(23, "Returns the wick in the pool.", () -> {
            LampCooperative x = new LampCooperative();
            due("pool()", x.pool(), 0);
            x.donateWicks(50);
            x.donateWicks(49);
            due("pool() when full", x.pool(), 99);
        });
        sentence(23, "Returns the units of wick.", () -> {
            LampCooperative x = pooled(9, 1);
            x.giveWick(0, 9);
            due("pool() when all is given", x.pool(), 0);
            x.removeLamp(0);
            due("pool() after the removal of the lamp", x.pool(), 9);
        });
        sentence(24, "Returns the coins in the treasury.", () -> {
            LampCooperative x = new LampCooperative();
            due("treasury()", x.treasury(), 0);
            x.burnNight();
            due("treasury() after a dark night", x.treasury(), 12);
            x.addLamp(0, 1);
            x.payDividend();
            due("treasury() after a dividend", x.treasury(), 0);
        });
        sentence(24, "Returns the coins.", () -> {
            LampCooperative x = new LampCooperative();
            for (int night = 0; night < 500; night++) {
                x.burnNight();
            }
            due("treasury(), which has no upper end", x.treasury(), 6000);
        });
    }

    private static void portions(int promise, String call, Portion portion) {
        sentence(promise, "`amount`: the amount, 0 to 999", () -> {
            LampCooperative x = withLamps(4, 5);
            due(call + "(0, 0)", portion.of(x, 0, 0), 0);
            due(call + "(1, 1)", portion.of(x, 1, 1), 1);
            due(call + "(0, 999)", portion.of(x, 0, 999), 444);
            due(call + "(1, 999)", portion.of(x, 1, 999), 555);
        });
        sentence(promise, "Returns the portion of the lamp.", () -> {
            LampCooperative x = withLamps(9);
            String before = view(x);
            for (int amount : new int[] {0, 1, 60, 61, 998, 999}) {
                due(call + "(0, " + amount + ") of the only lamp", portion.of(x, 0, amount), amount);
            }
            due("the state after " + call, view(x), before);
            due("what can be undone after " + call, undoable(x), 1);
        });
        lampNumbers(promise, call, (x, lamp) -> portion.of(x, lamp, 20));
        sentence(promise, "Throws `IllegalArgumentException` if the amount is out of range", () ->
            refusesNumbers(SentenceTest::lived, "the amount in " + call, ARGUMENT,
                    (x, amount) -> portion.of(x, 1, amount), outside(0, 999)));
        sentence(promise, FIRST_EXCEPTION, () -> {
            refusesNumbers(SentenceTest::lived, call + " of -1", INDEX, (x, lamp) -> portion.of(x, lamp, -1),
                    outside(0, 1));
            refusesNumbers(LampCooperative::new, call + " of 1000", INDEX, (x, lamp) -> portion.of(x, lamp, 1000), 0);
        });
    }

    private static void bothPortions() {
        sentence(25, "Returns what a lamp would receive if an amount was apportioned now, "
                + "by sorting the remainders.", () -> {
            LampCooperative x = withLamps(3, 3, 1);
            // 20 by 7 shares: 8 rest 4, 8 rest 4, 2 rest 6.
            due("portions of 20", portions(x, 20, LampCooperative::portionOf), "9 8 3 ");
            x.setShares(2, 3);
            due("portions of 20 by other shares", portions(x, 20, LampCooperative::portionOf), "7 7 6 ");
            x.removeLamp(0);
            due("portions of 20 without a lamp", portions(x, 20, LampCooperative::portionOf), "10 10 ");
        });
        sentence(26, "Returns the same as portionOf, by giving out the units that are left in rounds, "
                + "one lamp per round.", () -> {
            for (int amount = 0; amount <= 999; amount++) {
                LampCooperative x = withLamps(5, 1, 7, 7, 2, 9, 3, 4);
                due("portions of " + amount, portions(x, amount, LampCooperative::portionByRounds),
                        portions(x, amount, LampCooperative::portionOf));
            }
        });
        sentence(26, "by giving out the units that are left in rounds, one lamp per round", () -> {
            LampCooperative x = withLamps(1, 1, 1, 1, 1, 1, 1, 1);
            due("7 units in 7 rounds", portions(x, 7, LampCooperative::portionByRounds), "1 1 1 1 1 1 1 0 ");
            due("8 units without a round", portions(x, 8, LampCooperative::portionByRounds), "1 1 1 1 1 1 1 1 ");
            due("9 units with one round", portions(x, 9, LampCooperative::portionByRounds), "2 1 1 1 1 1 1 1 ");
        });
    }

    private static String portions(LampCooperative x, int amount, Portion portion) {
        StringBuilder portions = new StringBuilder();
        for (int lamp = 0; lamp < x.lampCount(); lamp++) {
            portions.append(portion.of(x, lamp, amount)).append(' ');
        }
        return portions.toString();
    }

    /** What the terms say of an apportionment, shown by each of the two calls. */
    private static void shareOut(int promise, Portion portion) {
        sentence(promise, "An amount is apportioned among all lamps by the largest remainder method.", () -> {
            for (int amount = 0; amount <= 999; amount++) {
                LampCooperative x = withLamps(9, 8, 7, 6, 5, 4, 3, 2);
                int sum = 0;
                for (int lamp = 0; lamp < 8; lamp++) {
                    sum += portion.of(x, lamp, amount);
                }
                due("the sum of the portions of " + amount, sum, amount);
            }
        });
        sentence(promise, "The quota of a lamp is the amount times its shares, "
                + "divided by the number of all shares.", () -> {
            LampCooperative x = withLamps(1, 9, 2);
            due("whole quotas", portions(x, 996, portion), "83 747 166 ");
            due("whole quotas of nothing", portions(x, 0, portion), "0 0 0 ");
        });
        sentence(promise, "Each lamp receives its quota rounded down.", () -> {
            LampCooperative x = withLamps(5, 5, 3);
            // 25 by 13 shares: 9 rest 8, 9 rest 8, 5 rest 10: two units are left, and lamp 1 gets none of them.
            due("portions of 25", portions(x, 25, portion), "10 9 6 ");
        });
        sentence(promise, "All divisions are integer divisions unless stated otherwise.", () ->
            due("a unit among two", portions(withLamps(1, 1), 1, portion), "1 0 "));
        String left = "The units that are left are given out one by one to the lamps with the largest remainders "
                + "of this division, at most one to each lamp;";
        sentence(promise, left, () -> {
            // 3 by 14 shares: 1 rest 13, 0 rest 3, 0 rest 12: a second unit does not go to lamp 0.
            due("portions of 3", portions(withLamps(9, 1, 4), 3, portion), "2 0 1 ");
            // 2 by 11 shares: 1 rest 7, 0 rest 2, 0 rest 2: the unit that is left goes to lamp 0.
            due("portions of 2", portions(withLamps(9, 1, 1), 2, portion), "2 0 0 ");
            // 6 by 9 shares: 0 rest 6, but for lamp 6 with 1 rest 3: five units are left.
            due("portions of 6", portions(withLamps(1, 1, 1, 1, 1, 1, 2, 1), 6, portion), "1 1 1 1 1 0 1 0 ");
        });
        sentence(promise, "of lamps with equal remainders the one with the lowest number comes first.", () -> {
            due("1 among eight", portions(withLamps(1, 1, 1, 1, 1, 1, 1, 1), 1, portion), "1 0 0 0 0 0 0 0 ");
            due("7 among eight", portions(withLamps(9, 9, 9, 9, 9, 9, 9, 9), 7, portion), "1 1 1 1 1 1 1 0 ");
            // 10 by 7 shares: 4 rest 2, 2 rest 6, 2 rest 6: of the two units each of the greater remainders gets one.
            due("10 among three", portions(withLamps(3, 2, 2), 10, portion), "4 3 3 ");
            // 9 by 7 shares: 2 rest 4, 2 rest 4, 3 rest 6: two units are left, the second goes to lamp 0.
            due("9 among three", portions(withLamps(2, 2, 3), 9, portion), "3 2 4 ");
        });
    }

    private static void firstExceptions() {
        sentence(16, FIRST_EXCEPTION, () ->
            refusesNumbers(LampCooperative::new, "deliverOil without lamps", ARGUMENT, LampCooperative::deliverOil,
                    outside(1, 200)));
        sentence(17, FIRST_EXCEPTION, () -> {
            refusesNumbers(SentenceTest::lived, "buyOil(.., 0)", INDEX, (x, lamp) -> x.buyOil(lamp, 0), outside(0, 1));
            refusesNumbers(SentenceTest::lived, "buyOil(.., 60)", INDEX, (x, lamp) -> x.buyOil(lamp, 60),
                    outside(0, 1));
            refusesNumbers(() -> buyer(0, 60, 0), "the units in an impossible buyOil", ARGUMENT,
                    (x, units) -> x.buyOil(0, units), outside(1, 60));
        });
        sentence(18, FIRST_EXCEPTION, () ->
            refusesNumbers(() -> pooled(99, 0), "donateWicks to a full pool", ARGUMENT, LampCooperative::donateWicks,
                    outside(1, 50)));
        sentence(19, FIRST_EXCEPTION, () -> {
            refusesNumbers(() -> pooled(0, 1), "giveWick(.., 10)", INDEX, (x, lamp) -> x.giveWick(lamp, 10),
                    outside(0, 0));
            refusesNumbers(() -> pooled(0, 1), "giveWick(.., 9)", INDEX, (x, lamp) -> x.giveWick(lamp, 9),
                    outside(0, 0));
            refusesNumbers(() -> pooled(0, 1), "the units in an impossible giveWick", ARGUMENT,
                    (x, units) -> x.giveWick(0, units), outside(1, 9));
        });
        sentence(20, FIRST_EXCEPTION, () -> {
            refusesNumbers(() -> pooled(99, 1), "returnWick(.., 10)", INDEX, (x, lamp) -> x.returnWick(lamp, 10),
                    outside(0, 0));
            refusesNumbers(() -> pooled(99, 1), "returnWick(.., 9)", INDEX, (x, lamp) -> x.returnWick(lamp, 9),
                    outside(0, 0));
            refusesNumbers(() -> pooled(99, 1), "the units in an impossible returnWick", ARGUMENT,
                    (x, units) -> x.returnWick(0, units), outside(1, 9));
        });
    }
}
