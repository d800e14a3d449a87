/** Promises 42 to 51: votes, rankings, lines and checks. */
final class VoteSentences extends SentenceTest {
    static void test() {
        proposeCap();
        majorities();
        votesFor();
        lowestCap();
        totalShares();
        richestLamp();
        longestLamp();
        writeLamp();
        writtenEdges();
        lineAt();
        meanOil();
        isBalanced();
    }

    /** Lamps with these shares and this brightness, one by one. */
    private static LampCooperative bright(int[] shares, int[] brightness) {
        LampCooperative x = withLamps(shares);
        for (int lamp = 0; lamp < brightness.length; lamp++) {
            x.setBrightness(lamp, brightness[lamp]);
        }
        return x;
    }

    private static String brightness(LampCooperative x) {
        StringBuilder brightness = new StringBuilder();
        for (int lamp = 0; lamp < x.lampCount(); lamp++) {
            brightness.append(x.brightnessOf(lamp));
        }
        return brightness.toString();
    }

    private static void proposeCap() {
        sentence(42, "Puts a motion to the vote: that no lamp is brighter than a cap.", () -> {
            LampCooperative x = bright(new int[] {9, 9, 9, 9, 9, 9, 9, 9}, new int[] {1, 2, 3, 4, 5, 1, 1, 1});
            due("proposeCap(4)", x.proposeCap(4), true);
            due("brightness", brightness(x), "12344111");
            due("proposeCap(1)", x.proposeCap(1), false);
            due("brightness", brightness(x), "12344111");
            due("proposeCap(2)", x.proposeCap(2), true);
            due("brightness", brightness(x), "12222111");
        });
        sentence(42, "`cap`: the cap, 1 to 5", () -> {
            for (int cap = 1; cap <= 5; cap++) {
                LampCooperative x = bright(new int[] {9, 1}, new int[] {1, 5});
                due("proposeCap(" + cap + ")", x.proposeCap(cap), true);
                due("brightness", brightness(x), "1" + cap);
            }
        });
        sentence(42, "Returns whether the motion was carried.", () -> {
            due("proposeCap(5)", bright(new int[] {1}, new int[] {5}).proposeCap(5), true);
            due("proposeCap(4) of one lamp against it", bright(new int[] {1}, new int[] {5}).proposeCap(4), false);
            due("proposeCap(1) that changes nothing", withLamps(1).proposeCap(1), true);
        });
        sentence(42, "Throws `IllegalArgumentException` if the cap is out of range", () ->
            refusesNumbers(SentenceTest::lived, "proposeCap", ARGUMENT, LampCooperative::proposeCap, outside(1, 5)));
        sentence(42, "Throws `IllegalStateException` if there are no lamps", () -> {
            refusesNumbers(LampCooperative::new, "proposeCap", STATE, LampCooperative::proposeCap, 1, 5);
            refusedAlike(() -> {
                LampCooperative x = withLamps(1);
                x.removeLamp(0);
                return x;
            }, "proposeCap after the last lamp", STATE, x -> x.proposeCap(5));
        });
        sentence(42, FIRST_EXCEPTION, () ->
            refusesNumbers(LampCooperative::new, "proposeCap without lamps", ARGUMENT, LampCooperative::proposeCap,
                    outside(1, 5)));
    }

    private static void majorities() {
        sentence(42, "A lamp votes for the motion with all its shares if its brightness is at most the cap, "
                + "otherwise against it.", () -> {
            LampCooperative x = bright(new int[] {5, 4}, new int[] {3, 4});
            due("proposeCap(2) below every lamp", x.proposeCap(2), false);
            due("brightness", brightness(x), "34");
            x.switchOff(0);
            due("proposeCap(3), the brightness of a lamp that is off", x.proposeCap(3), true);
            due("brightness", brightness(x), "33");
        });
        String half = "The motion is carried if more than half of all shares vote for it;";
        sentence(42, half, () -> {
            LampCooperative x = bright(new int[] {4, 4}, new int[] {1, 2});
            due("proposeCap(1) with 4 of 8 shares", x.proposeCap(1), false);
            x.setShares(0, 5);
            due("proposeCap(1) with 5 of 9 shares", x.proposeCap(1), true);
        });
        sentence(42, half, () -> {
            due("proposeCap(1) with 4 of 9", bright(new int[] {4, 5}, new int[] {1, 2}).proposeCap(1), false);
            due("proposeCap(1) with 5 of 9", bright(new int[] {5, 4}, new int[] {1, 2}).proposeCap(1), true);
            due("proposeCap(1) with 36 of 72", bright(new int[] {9, 9, 9, 9, 9, 9, 9, 9},
                    new int[] {1, 1, 1, 1, 2, 2, 2, 2}).proposeCap(1), false);
            due("proposeCap(1) with 36 of 71", bright(new int[] {9, 9, 9, 9, 9, 9, 9, 8},
                    new int[] {1, 1, 1, 1, 2, 2, 2, 2}).proposeCap(1), true);
        });
        sentence(42, "then the brightness of each brighter lamp is set to the cap.", () -> {
            LampCooperative x = bright(new int[] {9, 1, 1, 1, 1}, new int[] {1, 2, 3, 4, 5});
            x.proposeCap(3);
            due("brightness", brightness(x), "12333");
            x.proposeCap(5);
            due("brightness under a higher cap", brightness(x), "12333");
            LampCooperative y = bright(new int[] {1, 9, 1}, new int[] {5, 1, 5});
            y.proposeCap(2);
            due("brightness of the first and the last lamp", brightness(y), "212");
        });
    }

    private static void votesFor() {
        sentence(43, "Returns the number of shares that would vote for a cap.", () -> {
            LampCooperative x = bright(new int[] {9, 8, 7, 6, 5}, new int[] {1, 2, 3, 4, 5});
            String before = stateView(x);
            int[] votes = {9, 17, 24, 30, 35};
            for (int cap = 1; cap <= 5; cap++) {
                due("votesFor(" + cap + ")", x.votesFor(cap), votes[cap - 1]);
            }
            due("the state after votesFor", stateView(x), before);
        });
        sentence(43, "`cap`: the cap, 1 to 5", () -> {
            for (int cap = 1; cap <= 5; cap++) {
                due("votesFor(" + cap + ") without lamps", new LampCooperative().votesFor(cap), 0);
                due("votesFor(" + cap + ")", withLamps(9, 9, 9, 9, 9, 9, 9, 9).votesFor(cap), 72);
            }
        });
        sentence(43, "Returns the number of shares.", () -> {
            LampCooperative x = bright(new int[] {9}, new int[] {5});
            due("votesFor(4) of a brighter lamp", x.votesFor(4), 0);
            due("votesFor(5)", x.votesFor(5), 9);
        });
        sentence(43, "Throws `IllegalArgumentException` if the cap is out of range", () -> {
            refusesNumbers(LampCooperative::new, "votesFor", ARGUMENT, LampCooperative::votesFor, outside(1, 5));
            refusesNumbers(SentenceTest::lived, "votesFor", ARGUMENT, LampCooperative::votesFor, outside(1, 5));
        });
    }

    private static void lowestCap() {
        sentence(44, "Returns the lowest cap that would be carried.", () -> {
            LampCooperative x = bright(new int[] {4, 4}, new int[] {1, 5});
            due("lowestCap() with half of the shares for 1", x.lowestCap(), 5);
            x.setShares(0, 5);
            due("lowestCap() with more than half for 1", x.lowestCap(), 1);
            x.setBrightness(0, 3);
            due("lowestCap()", x.lowestCap(), 3);
            due("proposeCap of the lowest cap", x.proposeCap(3), true);
        });
        sentence(44, "Returns the cap.", () -> {
            for (int brightness = 1; brightness <= 5; brightness++) {
                LampCooperative x = bright(new int[] {1}, new int[] {brightness});
                due("lowestCap()", x.lowestCap(), brightness);
                due("brightnessOf(0)", x.brightnessOf(0), brightness);
            }
        });
        sentence(44, "Throws `NoSuchElementException` if there are no lamps", () -> {
            refusedAlike(LampCooperative::new, "lowestCap()", NO_ELEMENT, LampCooperative::lowestCap);
            refusedAlike(() -> {
                LampCooperative x = withLamps(1);
                x.removeLamp(0);
                return x;
            }, "lowestCap() after the last lamp", NO_ELEMENT, LampCooperative::lowestCap);
        });
    }

    private static void totalShares() {
        sentence(45, "Returns the number of all shares.", () -> {
            due("totalShares() without lamps", new LampCooperative().totalShares(), 0);
            due("totalShares() of one", withLamps(1).totalShares(), 1);
            due("totalShares() of all", withLamps(9, 9, 9, 9, 9, 9, 9, 9).totalShares(), 72);
        });
        sentence(45, "Returns the number of shares.", () -> {
            LampCooperative x = withLamps(9, 1);
            x.setShares(0, 1);
            due("totalShares()", x.totalShares(), 2);
            x.removeLamp(0);
            due("totalShares()", x.totalShares(), 1);
            x.removeLamp(0);
            due("totalShares() when the last is removed", x.totalShares(), 0);
        });
    }

    private static String ranking(LampCooperative x, NumberedCall asked) {
        StringBuilder ranking = new StringBuilder();
        for (int rank = 0; rank < x.lampCount(); rank++) {
            ranking.append(asked.on(x, rank));
        }
        return ranking.toString();
    }

    private static void ranks(int promise, String call, NumberedCall asked) {
        sentence(promise, "`rank`: the rank, from 0", () -> {
            LampCooperative x = withLamps(1, 1, 1, 1, 1, 1, 1, 1);
            due(call + " of lamps without anything", ranking(x, asked), "01234567");
        });
        sentence(promise, "Throws `NoSuchElementException` if there is no such rank", () -> {
            refusesNumbers(LampCooperative::new, call, NO_ELEMENT, asked, outside(0, -1));
            refusesNumbers(SentenceTest::lived, call, NO_ELEMENT, asked, outside(0, 1));
            refusesNumbers(SentenceTest::eightLamps, call, NO_ELEMENT, asked, outside(0, 7));
        });
    }

    private static void richestLamp() {
        ranks(46, "richestLamp", LampCooperative::richestLamp);
        String order = "Returns a lamp in the order of balances, the greatest balance first; "
                + "lamps with equal balances are ordered by their numbers.";
        sentence(46, order, () -> {
            LampCooperative x = withLamps(1, 2, 3, 4, 5, 6, 7, 8);
            x.burnNight();
            x.burnNight();
            x.burnNight();
            x.payDividend();
            due("richestLamp", ranking(x, LampCooperative::richestLamp), "76543210");
        });
        sentence(46, order, () -> {
            LampCooperative x = withLamps(1, 3, 1, 3);
            x.burnNight();
            x.burnNight();
            x.payDividend();
            x.addLamp(0, 9);
            // The balances are 3, 9, 3, 9 and 0.
            due("richestLamp", ranking(x, LampCooperative::richestLamp), "13024");
        });
        sentence(46, "Returns the number of the lamp.", () -> {
            LampCooperative x = withLamps(1, 9);
            x.burnNight();
            x.payDividend();
            due("richestLamp(0)", x.richestLamp(0), 1);
            x.removeLamp(0);
            due("richestLamp(0) of the lamp that was 1", x.richestLamp(0), 0);
        });
    }

    private static void longestLamp() {
        ranks(47, "longestLamp", LampCooperative::longestLamp);
        String order = "Returns a lamp in the order of nightsOf, the greatest number of nights first; "
                + "lamps with equal numbers of nights are ordered by their numbers.";
        sentence(47, order, () -> {
            LampCooperative x = eightLamps();
            due("longestLamp by wick", ranking(x, LampCooperative::longestLamp), "76543210");
        });
        sentence(47, order, () -> {
            // Nights: 1, 2, 3, 4, 20 / 4 = 5, 16 / 5 = 3, 12 / 4 = 3, 8 / 5 = 1.
            LampCooperative x = eightLamps();
            int[] brightness = {1, 1, 1, 1, 4, 5, 4, 5};
            for (int lamp = 0; lamp < 8; lamp++) {
                x.setBrightness(lamp, brightness[lamp]);
            }
            due("longestLamp", ranking(x, LampCooperative::longestLamp), "43256107");
            x.switchOff(4);
            due("longestLamp with one lamp off", ranking(x, LampCooperative::longestLamp), "43256107");
        });
        sentence(47, "Returns the number of the lamp.", () -> {
            LampCooperative x = supplied();
            x.returnWick(0, 9);
            due("longestLamp(0)", x.longestLamp(0), 1);
            due("longestLamp(1)", x.longestLamp(1), 0);
            x.removeLamp(0);
            due("longestLamp(0) of the lamp that was 1", x.longestLamp(0), 0);
        });
    }

    private static void writeLamp() {
        sentence(48, "Writes a lamp into the line, which replaces the previous line: its number, \":\" and its street, "
                + "\"*\" and its brightness, \"o\" and its oil, \"w\" and its wick, and \"!\" if it is switched off; "
                + "for example \"2:0*3o15w4!\".", () -> {
            LampCooperative x = new LampCooperative();
            x.addLamp(3, 1);
            x.addLamp(2, 1);
            x.addLamp(0, 1);
            x.deliverOil(45);
            x.donateWicks(4);
            x.giveWick(2, 4);
            x.setBrightness(2, 3);
            x.switchOff(2);
            due("writeLamp(2)", x.writeLamp(2), 11);
            due("line", line(x), "2:0*3o15w4!");
        });
        lampNumbers(48, "writeLamp", LampCooperative::writeLamp);
        sentence(48, "Returns the length of the line.", () -> {
            LampCooperative x = withLamps(1);
            due("writeLamp(0), the shortest", x.writeLamp(0), 9);
            due("line", line(x), "0:0*1o0w0");
            x.deliverOil(9);
            due("writeLamp(0) with the last oil of one digit", x.writeLamp(0), 9);
            x.deliverOil(1);
            due("writeLamp(0) with the first oil of two digits", x.writeLamp(0), 10);
            due("line", line(x), "0:0*1o10w0");
        });
        sentence(48, "Returns the length of the line.", () -> {
            LampCooperative x = withLamps(1, 1, 1, 1, 1, 1, 1, 1);
            x.removeLamp(0);
            x.addLamp(3, 9);
            x.deliverOil(200);
            x.deliverOil(200);
            x.deliverOil(200);
            x.donateWicks(9);
            x.giveWick(7, 9);
            x.setBrightness(7, 5);
            x.switchOff(7);
            due("writeLamp(7), the longest", x.writeLamp(7), 11);
            due("line", line(x), "7:3*5o60w9!");
        });
    }

    private static void writtenEdges() {
        sentence(48, "which replaces the previous line", () -> {
            LampCooperative x = withLamps(1);
            x.deliverOil(60);
            x.switchOff(0);
            x.writeLamp(0);
            due("line", line(x), "0:0*1o60w0!");
            x.switchOn(0);
            due("line before the next writeLamp", line(x), "0:0*1o60w0!");
            x.writeLamp(0);
            due("a shorter line", line(x), "0:0*1o60w0");
            x.removeLamp(0);
            refused(x, "writeLamp(0) of no lamp", INDEX, () -> x.writeLamp(0));
            due("line after a refused writeLamp", line(x), "0:0*1o60w0");
        });
        sentence(48, "and \"!\" if it is switched off", () -> {
            LampCooperative x = oneLamp(0, 0, 5);
            x.writeLamp(0);
            due("line of a lamp that is on but cannot burn", line(x), "0:0*5o0w0");
            x.switchOff(0);
            x.writeLamp(0);
            due("line of a lamp that is off", line(x), "0:0*5o0w0!");
        });
    }

    private static void lineAt() {
        sentence(49, "Returns a character of the line, which is empty at first.", () -> {
            refusesNumbers(LampCooperative::new, "lineAt of the empty line", INDEX, LampCooperative::lineAt, 0);
            refusesNumbers(SentenceTest::eightLamps, "lineAt of the empty line", INDEX, LampCooperative::lineAt, 0);
        });
        sentence(49, "`index`: index of the character, from 0", () -> {
            LampCooperative x = lived();
            due("lineAt(0)", x.lineAt(0), '1');
            due("lineAt(10)", x.lineAt(10), '!');
        });
        sentence(49, "Returns the character.", () -> {
            LampCooperative x = lived();
            String line = "1:1*1o39w8!";
            for (int index = 0; index < line.length(); index++) {
                due("lineAt(" + index + ")", x.lineAt(index), line.charAt(index));
            }
        });
        sentence(49, "Throws `IndexOutOfBoundsException` if there is no such character", () -> {
            refusesNumbers(LampCooperative::new, "lineAt", INDEX, LampCooperative::lineAt, outside(0, -1));
            refusesNumbers(SentenceTest::lived, "lineAt", INDEX, LampCooperative::lineAt, outside(0, 10));
            LampCooperative x = lived();
            x.switchOn(1);
            x.writeLamp(1);
            refused(x, "lineAt(10) of a line that is shorter now", INDEX, () -> x.lineAt(10));
        });
    }

    private static void meanOil() {
        sentence(50, "Returns the mean oil of the lamps.", () -> {
            LampCooperative x = withLamps(1, 1);
            x.deliverOil(200);
            due("meanOil() of full tanks", x.meanOil(), 60.0);
            due("meanOil() of an empty tank", withLamps(1).meanOil(), 0.0);
        });
        sentence(50, "Returns the sum of their oil divided by their number, both converted to double.", () -> {
            LampCooperative x = withLamps(1, 1, 1);
            x.deliverOil(1);
            due("meanOil() of 1 unit", x.meanOil(), 1.0 / 3.0);
            x.deliverOil(1);
            x.removeLamp(2);
            due("meanOil() without one of them", x.meanOil(), 1.0);
            x.removeLamp(0);
            due("meanOil() of one", x.meanOil(), 0.0);
        });
        sentence(50, "All divisions are integer divisions unless stated otherwise.", () -> {
            LampCooperative x = withLamps(1, 1, 1, 1, 1, 1, 1, 1);
            x.deliverOil(15);
            due("meanOil() of 15 units at 8 lamps", x.meanOil(), 1.875);
        });
        sentence(50, "Throws `ArithmeticException` if there are no lamps", () -> {
            refusedAlike(LampCooperative::new, "meanOil()", ARITHMETIC, LampCooperative::meanOil);
            refusedAlike(() -> {
                LampCooperative x = withLamps(1);
                x.deliverOil(9);
                x.removeLamp(0);
                return x;
            }, "meanOil() after the last lamp", ARITHMETIC, LampCooperative::meanOil);
        });
    }

    private static void isBalanced() {
        String all = "Returns whether the totals balance:";
        sentence(51, all, () -> {
            LampCooperative x = new LampCooperative();
            due("isBalanced() of nothing", x.isBalanced(), true);
            x.burnNight();
            due("isBalanced() without lamps", x.isBalanced(), true);
            refused(x, "deliverOil(1)", STATE, () -> x.deliverOil(1));
            refused(x, "donateWicks(51)", ARGUMENT, () -> x.donateWicks(51));
            due("isBalanced() after refused calls", x.isBalanced(), true);
        });
        sentence(51, "all oil that was delivered is in tanks or in the reserve, was burned or was eaten;", () -> {
            LampCooperative x = members(6);
            x.deliverOil(200);
            due("isBalanced() with a reserve", x.isBalanced(), true);
            x.donateWicks(9);
            x.giveWick(0, 9);
            x.setBrightness(0, 5);
            x.burnNight();
            due("isBalanced() after a flame and six meals", x.isBalanced(), true);
            x.removeLamp(0);
            due("isBalanced() without the tank", x.isBalanced(), true);
        });
        sentence(51, "all wick that was donated is at lamps or in the pool, or was burned;", () -> {
            LampCooperative x = oneLamp(60, 9, 1);
            x.burnNight();
            due("isBalanced() after a flame", x.isBalanced(), true);
            x.returnWick(0, 1);
            due("isBalanced() after a return", x.isBalanced(), true);
            x.removeLamp(0);
            due("isBalanced() without the lamp", x.isBalanced(), true);
        });
        sentence(51, "all subsidies are in the treasury or in balances;", () -> {
            LampCooperative x = buyer(10, 0, 1);
            due("isBalanced() after a dividend", x.isBalanced(), true);
            x.buyOil(0, 10);
            due("isBalanced() after a sale", x.isBalanced(), true);
            x.removeLamp(0);
            due("isBalanced() without the lamp", x.isBalanced(), true);
        });
        sentence(51, "and for every amount from 0 to 20 both methods of apportionment agree for every lamp.", () -> {
            LampCooperative x = eightLamps();
            String before = view(x);
            due("isBalanced()", x.isBalanced(), true);
            due("the state after isBalanced", view(x), before);
            due("what can be undone after isBalanced", undoable(x), 8);
        });
        sentence(51, "Returns whether the totals balance.", () -> {
            LampCooperative x = lived();
            for (int left = 7; left >= 0; left--) {
                due("undo()", x.undo(), left);
                due("isBalanced() after an undo", x.isBalanced(), true);
            }
            x.restore();
            due("isBalanced() after restore", x.isBalanced(), true);
        });
        sentence(51, "Returns whether the totals balance.", () -> {
            LampCooperative x = members(6);
            x.deliverOil(60);
            x.donateWicks(9);
            x.giveWick(0, 9);
            x.save();
            x.burnNight();
            x.undo();
            due("isBalanced() after the undo of six meals", x.isBalanced(), true);
            x.burnNight();
            x.restore();
            due("isBalanced() after restore from before six meals", x.isBalanced(), true);
        });
    }
}
