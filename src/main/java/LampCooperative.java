import java.util.NoSuchElementException;

/** A simulator for a cooperative of street lamps; README.md tells how to use it. */
public final class LampCooperative {
    private static final int MAX_LAMPS = 8;
    private static final int MAX_MOTHS = 6;
    private static final int STREETS = 4;
    private static final int MAX_SHARES = 9;
    private static final int MAX_BRIGHTNESS = 5;
    private static final int TANK = 60;
    private static final int MAX_WICK = 9;
    private static final int MAX_POOL = 99;
    private static final int MAX_DELIVERY = 200;
    private static final int MAX_DONATION = 50;
    private static final int MAX_PORTIONED = 999;
    private static final int MAX_CHECKED_PORTION = 20;
    private static final int PROBATION_NIGHTS = 3;
    private static final int MAX_STRIKES = 2;
    private static final int SUBSIDY = 3;
    private static final int NO_LAMP = -1;
    private static final int NONE_SO_FAR = -1;
    private static final int MAX_TEXT = 60;
    private static final int UNDO_DEPTH = 8;
    private static final int FIRST_CHARACTER = 32;
    private static final int LAST_CHARACTER = 126;

    private final State state = new State();
    private final State beforeText = new State();
    private final State snapshot = new State();
    private boolean hasSnapshot = false;
    private final History history = new History();
    private final Night night = new Night();
    private final Apportionment sorted = new Apportionment();
    private final Apportionment inRounds = new Apportionment();
    private final int[] rankingKeys = new int[MAX_LAMPS];
    private final CommandText text = new CommandText();
    private final StringBuilder line = new StringBuilder();
    private int lastErrorPosition = NONE_SO_FAR;
    private int lastFailedCommand = NONE_SO_FAR;

    public LampCooperative() {
    }

    // Lamps

    public int addLamp(int street, int shares) throws IllegalArgumentException, IllegalStateException {
        raise(state.refusalToAddLamp(street, shares));
        history.remember(state);
        return state.lamps.append(street, shares);
    }

    public int removeLamp(int lamp) throws IndexOutOfBoundsException, IllegalStateException {
        raise(state.refusalToDropLamp(lamp));
        history.remember(state);
        return state.dropLamp(lamp);
    }

    public int setShares(int lamp, int shares) throws IndexOutOfBoundsException, IllegalArgumentException {
        raise(state.refusalOnLamp(lamp, shares, MAX_SHARES));
        history.remember(state);
        int previous = state.lamps.shares[lamp];
        state.lamps.shares[lamp] = shares;
        return previous;
    }

    public int setBrightness(int lamp, int brightness) throws IndexOutOfBoundsException, IllegalArgumentException {
        raise(state.refusalOnLamp(lamp, brightness, MAX_BRIGHTNESS));
        history.remember(state);
        int previous = state.lamps.brightness[lamp];
        state.lamps.brightness[lamp] = brightness;
        return previous;
    }

    public boolean switchOn(int lamp) throws IndexOutOfBoundsException {
        requireLamp(lamp);
        history.remember(state);
        boolean wasOff = !state.lamps.on[lamp];
        state.lamps.on[lamp] = true;
        return wasOff;
    }

    public boolean switchOff(int lamp) throws IndexOutOfBoundsException {
        requireLamp(lamp);
        history.remember(state);
        boolean wasOn = state.lamps.on[lamp];
        state.lamps.on[lamp] = false;
        return wasOn;
    }

    public int lampCount() {
        return state.lamps.count;
    }

    public int streetOf(int lamp) throws IndexOutOfBoundsException {
        requireLamp(lamp);
        return state.lamps.street[lamp];
    }

    public int sharesOf(int lamp) throws IndexOutOfBoundsException {
        requireLamp(lamp);
        return state.lamps.shares[lamp];
    }

    public int brightnessOf(int lamp) throws IndexOutOfBoundsException {
        requireLamp(lamp);
        return state.lamps.brightness[lamp];
    }

    public boolean isOn(int lamp) throws IndexOutOfBoundsException {
        requireLamp(lamp);
        return state.lamps.on[lamp];
    }

    public int oilOf(int lamp) throws IndexOutOfBoundsException {
        requireLamp(lamp);
        return state.lamps.oil[lamp];
    }

    public int wickOf(int lamp) throws IndexOutOfBoundsException {
        requireLamp(lamp);
        return state.lamps.wick[lamp];
    }

    public int balanceOf(int lamp) throws IndexOutOfBoundsException {
        requireLamp(lamp);
        return state.lamps.balance[lamp];
    }

    // Oil, wicks and money

    public int deliverOil(int amount) throws IllegalArgumentException, IllegalStateException {
        raise(state.refusalToDeliver(amount));
        history.remember(state);
        return state.pourOil(amount, sorted);
    }

    public int buyOil(int lamp, int units)
            throws IndexOutOfBoundsException, IllegalArgumentException, IllegalStateException {
        raise(state.refusalToBuy(lamp, units));
        history.remember(state);
        return state.sellOil(lamp, units);
    }

    public int donateWicks(int units) throws IllegalArgumentException, IllegalStateException {
        raise(state.refusalToDonate(units));
        history.remember(state);
        return state.takeDonation(units);
    }

    public int giveWick(int lamp, int units)
            throws IndexOutOfBoundsException, IllegalArgumentException, IllegalStateException {
        raise(state.refusalToGive(lamp, units));
        history.remember(state);
        return state.moveWickToLamp(lamp, units);
    }

    public int returnWick(int lamp, int units)
            throws IndexOutOfBoundsException, IllegalArgumentException, IllegalStateException {
        raise(state.refusalToReturn(lamp, units));
        history.remember(state);
        return state.moveWickToLamp(lamp, -units);
    }

    public int payDividend() throws IllegalStateException {
        raise(state.refusalToPay());
        history.remember(state);
        return state.shareTreasury(sorted);
    }

    public int reserve() {
        return state.books.reserve;
    }

    public int pool() {
        return state.books.pool;
    }

    public int treasury() {
        return state.books.treasury;
    }

    public int portionOf(int lamp, int amount) throws IndexOutOfBoundsException, IllegalArgumentException {
        raise(state.refusalToPortion(lamp, amount));
        sorted.divideBySorting(state.lamps, amount);
        return sorted.portion[lamp];
    }

    public int portionByRounds(int lamp, int amount) throws IndexOutOfBoundsException, IllegalArgumentException {
        raise(state.refusalToPortion(lamp, amount));
        inRounds.divideInRounds(state.lamps, amount);
        return inRounds.portion[lamp];
    }

    // Moths

    public int addMoth(int lamp) throws IndexOutOfBoundsException, IllegalStateException {
        raise(state.refusalToAddMoth(lamp));
        history.remember(state);
        return state.moths.append(lamp);
    }

    public int moveMoth(int moth, int lamp) throws IndexOutOfBoundsException {
        requireMoth(moth);
        if (lamp != NO_LAMP) {
            requireLamp(lamp);
        }
        history.remember(state);
        int previous = state.moths.circled[moth];
        state.moths.circled[moth] = lamp;
        return previous;
    }

    public int mothCount() {
        return state.moths.count;
    }

    public int lampOfMoth(int moth) throws IndexOutOfBoundsException {
        requireMoth(moth);
        return state.moths.circled[moth];
    }

    public int strikesOf(int moth) throws IndexOutOfBoundsException {
        requireMoth(moth);
        return state.moths.strikes[moth];
    }

    public int probationOf(int moth) throws IndexOutOfBoundsException {
        requireMoth(moth);
        return state.moths.probation[moth];
    }

    public boolean isMember(int moth) throws IndexOutOfBoundsException {
        requireMoth(moth);
        return !state.moths.onProbation(moth);
    }

    // Nights

    public int burnNight() {
        history.remember(state);
        return night.pass(state);
    }

    public int nightCount() {
        return state.books.nights;
    }

    public boolean canBurn(int lamp) throws IndexOutOfBoundsException {
        requireLamp(lamp);
        return state.lamps.readyToBurn(lamp);
    }

    public int nightsOf(int lamp) throws IndexOutOfBoundsException {
        requireLamp(lamp);
        return state.lamps.nightsByFormula(lamp);
    }

    public int nightsBySimulation(int lamp) throws IndexOutOfBoundsException {
        requireLamp(lamp);
        return state.lamps.nightsOneByOne(lamp);
    }

    public int glowOf(int street) throws IndexOutOfBoundsException {
        requireStreet(street);
        return state.lamps.glowIn(street);
    }

    public boolean isDark(int street) throws IndexOutOfBoundsException {
        requireStreet(street);
        // A lamp that can burn has a brightness of at least 1, so no glow means no such lamp.
        return state.lamps.glowIn(street) == 0;
    }

    public int brightestStreet() {
        int brightest = 0;
        int greatest = state.lamps.glowIn(0);
        for (int street = 1; street < STREETS; street++) {
            int glow = state.lamps.glowIn(street);
            if (glow > greatest) {
                brightest = street;
                greatest = glow;
            }
        }
        return brightest;
    }

    // Votes

    public boolean proposeCap(int cap) throws IllegalArgumentException, IllegalStateException {
        raise(state.refusalToPropose(cap));
        history.remember(state);
        return state.lamps.voteOnCap(cap);
    }

    public int votesFor(int cap) throws IllegalArgumentException {
        if (!within(cap, 1, MAX_BRIGHTNESS)) {
            throw new IllegalArgumentException("the cap is not from 1 to 5");
        }
        return state.lamps.sharesFor(cap);
    }

    public int lowestCap() throws NoSuchElementException {
        if (state.lamps.count == 0) {
            throw new NoSuchElementException("there are no lamps");
        }
        int cap = 1;
        while (cap < MAX_BRIGHTNESS && !state.lamps.wouldCarry(cap)) {
            cap++;
        }
        return cap;
    }

    public int totalShares() {
        return state.lamps.allShares();
    }

    // Rankings, lines and checks

    public int richestLamp(int rank) throws NoSuchElementException {
        requireRank(rank);
        for (int lamp = 0; lamp < state.lamps.count; lamp++) {
            rankingKeys[lamp] = state.lamps.balance[lamp];
        }
        return lampAtRank(rank);
    }

    public int longestLamp(int rank) throws NoSuchElementException {
        requireRank(rank);
        for (int lamp = 0; lamp < state.lamps.count; lamp++) {
            rankingKeys[lamp] = state.lamps.nightsByFormula(lamp);
        }
        return lampAtRank(rank);
    }

    public int writeLamp(int lamp) throws IndexOutOfBoundsException {
        requireLamp(lamp);
        line.setLength(0);
        line.append(lamp).append(':').append(state.lamps.street[lamp]);
        line.append('*').append(state.lamps.brightness[lamp]);
        line.append('o').append(state.lamps.oil[lamp]);
        line.append('w').append(state.lamps.wick[lamp]);
        if (!state.lamps.on[lamp]) {
            line.append('!');
        }
        return line.length();
    }

    public char lineAt(int index) throws IndexOutOfBoundsException {
        if (index < 0 || index >= line.length()) {
            throw new IndexOutOfBoundsException("the line has no such character");
        }
        return line.charAt(index);
    }

    public double meanOil() throws ArithmeticException {
        if (state.lamps.count == 0) {
            throw new ArithmeticException("there are no lamps");
        }
        return (double) state.lamps.sumOf(state.lamps.oil) / (double) state.lamps.count;
    }

    public boolean isBalanced() {
        return state.totalsBalance() && apportionmentsAgree();
    }

    // Text, undo and snapshots

    public int type(char character) throws IllegalArgumentException, IllegalStateException {
        if (!within(character, FIRST_CHARACTER, LAST_CHARACTER)) {
            throw new IllegalArgumentException("the character is not from 32 to 126");
        }
        if (text.isFull()) {
            throw new IllegalStateException("the text buffer is full");
        }
        return text.append(character);
    }

    public int execute() throws IllegalArgumentException, IllegalStateException {
        boolean wellFormed = text.parse();
        text.length = 0;
        if (!wellFormed) {
            lastErrorPosition = text.position;
            throw new IllegalArgumentException("the text is malformed");
        }
        beforeText.copyFrom(state);
        int performed = performCommands();
        if (performed < text.commands) {
            state.copyFrom(beforeText);
            lastFailedCommand = performed;
            throw new IllegalStateException("a command failed");
        }
        history.remember(beforeText);
        return performed;
    }

    public int errorPosition() throws NoSuchElementException {
        if (lastErrorPosition == NONE_SO_FAR) {
            throw new NoSuchElementException("no text was malformed so far");
        }
        return lastErrorPosition;
    }

    public int failedCommand() throws NoSuchElementException {
        if (lastFailedCommand == NONE_SO_FAR) {
            throw new NoSuchElementException("no command failed so far");
        }
        return lastFailedCommand;
    }

    public int undo() throws IllegalStateException {
        if (history.size == 0) {
            throw new IllegalStateException("nothing can be undone");
        }
        history.takeBack(state);
        return history.size;
    }

    public int save() {
        snapshot.copyFrom(state);
        hasSnapshot = true;
        return state.lamps.count;
    }

    public int restore() throws IllegalStateException {
        if (!hasSnapshot) {
            throw new IllegalStateException("there is no snapshot");
        }
        state.copyFrom(snapshot);
        history.size = 0;
        return state.lamps.count;
    }

    // Helpers of the face

    private static boolean within(int value, int lowest, int highest) {
        return value >= lowest && value <= highest;
    }

    private static void raise(Refusal refusal) {
        if (refusal == Refusal.INDEX) {
            throw new IndexOutOfBoundsException("there is no such lamp");
        }
        if (refusal == Refusal.ARGUMENT) {
            throw new IllegalArgumentException("an argument is out of range");
        }
        if (refusal == Refusal.STATE) {
            throw new IllegalStateException("the cooperative cannot do this now");
        }
    }

    private void requireLamp(int lamp) {
        if (!state.lamps.has(lamp)) {
            throw new IndexOutOfBoundsException("there is no such lamp");
        }
    }

    private void requireMoth(int moth) {
        if (!state.moths.has(moth)) {
            throw new IndexOutOfBoundsException("there is no such moth");
        }
    }

    private static void requireStreet(int street) {
        if (!within(street, 0, STREETS - 1)) {
            throw new IndexOutOfBoundsException("there is no such street");
        }
    }

    private void requireRank(int rank) {
        if (!state.lamps.has(rank)) {
            throw new NoSuchElementException("there is no such rank");
        }
    }

    private int lampAtRank(int rank) {
        for (int lamp = 0; lamp < state.lamps.count; lamp++) {
            if (lampsAheadOf(lamp) == rank) {
                return lamp;
            }
        }
        return NO_LAMP;
    }

    private int lampsAheadOf(int lamp) {
        int ahead = 0;
        for (int other = 0; other < state.lamps.count; other++) {
            boolean greater = rankingKeys[other] > rankingKeys[lamp];
            boolean equalButEarlier = rankingKeys[other] == rankingKeys[lamp] && other < lamp;
            if (greater || equalButEarlier) {
                ahead++;
            }
        }
        return ahead;
    }

    private boolean apportionmentsAgree() {
        for (int amount = 0; amount <= MAX_CHECKED_PORTION; amount++) {
            sorted.divideBySorting(state.lamps, amount);
            inRounds.divideInRounds(state.lamps, amount);
            for (int lamp = 0; lamp < state.lamps.count; lamp++) {
                if (sorted.portion[lamp] != inRounds.portion[lamp]) {
                    return false;
                }
            }
        }
        return true;
    }

    /** Stops at the first command that fails and answers how many went well before it. */
    private int performCommands() {
        for (int command = 0; command < text.commands; command++) {
            Verb verb = text.verbs[command];
            int first = text.firsts[command];
            int second = text.seconds[command];
            if (verb == null || refusalOf(verb, first, second) != Refusal.NONE) {
                return command;
            }
            perform(verb, first, second);
        }
        return text.commands;
    }

    private Refusal refusalOf(Verb verb, int first, int second) {
        switch (verb) {
            case LAMP:
                return state.refusalToAddLamp(first, second);
            case REMOVE:
                return state.refusalToDropLamp(first);
            case OIL:
                return state.refusalToDeliver(first);
            case WICK:
                return state.refusalToDonate(first);
            case GIVE:
                return state.refusalToGive(first, second);
            case BRIGHT:
                return state.refusalOnLamp(first, second, MAX_BRIGHTNESS);
            case ON:
            case OFF:
                return state.lamps.has(first) ? Refusal.NONE : Refusal.INDEX;
            case MOTH:
                return state.refusalToAddMoth(first);
            case CAP:
                return state.refusalToPropose(first);
            case PAY:
                return state.refusalToPay();
            case BUY:
                return state.refusalToBuy(first, second);
            default:
                return Refusal.NONE;
        }
    }

    private void perform(Verb verb, int first, int second) {
        switch (verb) {
            case LAMP:
                state.lamps.append(first, second);
                break;
            case REMOVE:
                state.dropLamp(first);
                break;
            case OIL:
                state.pourOil(first, sorted);
                break;
            case WICK:
                state.takeDonation(first);
                break;
            case GIVE:
                state.moveWickToLamp(first, second);
                break;
            case BRIGHT:
                state.lamps.brightness[first] = second;
                break;
            case ON:
                state.lamps.on[first] = true;
                break;
            case OFF:
                state.lamps.on[first] = false;
                break;
            case MOTH:
                state.moths.append(first);
                break;
            case CAP:
                state.lamps.voteOnCap(first);
                break;
            case NIGHT:
                night.pass(state);
                break;
            case PAY:
                state.shareTreasury(sorted);
                break;
            case BUY:
                state.sellOil(first, second);
                break;
            default:
                break;
        }
    }

    /** Why a call may not be carried out: a text runs calls without their exceptions, so the reason is a value. */
    private enum Refusal {
        NONE, INDEX, ARGUMENT, STATE
    }

    private static final class Lamps {
        int count = 0;
        final int[] street = new int[MAX_LAMPS];
        final int[] shares = new int[MAX_LAMPS];
        final int[] brightness = new int[MAX_LAMPS];
        final boolean[] on = new boolean[MAX_LAMPS];
        final int[] oil = new int[MAX_LAMPS];
        final int[] wick = new int[MAX_LAMPS];
        final int[] balance = new int[MAX_LAMPS];

        boolean has(int lamp) {
            return lamp >= 0 && lamp < count;
        }

        int append(int newStreet, int newShares) {
            int lamp = count;
            street[lamp] = newStreet;
            shares[lamp] = newShares;
            brightness[lamp] = 1;
            on[lamp] = true;
            oil[lamp] = 0;
            wick[lamp] = 0;
            balance[lamp] = 0;
            count++;
            return lamp;
        }

        void closeGap(int lamp) {
            int later = count - lamp - 1;
            System.arraycopy(street, lamp + 1, street, lamp, later);
            System.arraycopy(shares, lamp + 1, shares, lamp, later);
            System.arraycopy(brightness, lamp + 1, brightness, lamp, later);
            System.arraycopy(on, lamp + 1, on, lamp, later);
            System.arraycopy(oil, lamp + 1, oil, lamp, later);
            System.arraycopy(wick, lamp + 1, wick, lamp, later);
            System.arraycopy(balance, lamp + 1, balance, lamp, later);
            count--;
        }

        void copyFrom(Lamps other) {
            count = other.count;
            System.arraycopy(other.street, 0, street, 0, MAX_LAMPS);
            System.arraycopy(other.shares, 0, shares, 0, MAX_LAMPS);
            System.arraycopy(other.brightness, 0, brightness, 0, MAX_LAMPS);
            System.arraycopy(other.on, 0, on, 0, MAX_LAMPS);
            System.arraycopy(other.oil, 0, oil, 0, MAX_LAMPS);
            System.arraycopy(other.wick, 0, wick, 0, MAX_LAMPS);
            System.arraycopy(other.balance, 0, balance, 0, MAX_LAMPS);
        }

        int sumOf(int[] row) {
            int sum = 0;
            for (int lamp = 0; lamp < count && lamp < row.length; lamp++) {
                sum += row[lamp];
            }
            return sum;
        }

        int allShares() {
            return sumOf(shares);
        }

        boolean readyToBurn(int lamp) {
            return on[lamp] && oil[lamp] >= brightness[lamp] && wick[lamp] >= 1;
        }

        int nightsByFormula(int lamp) {
            int perNight = brightness[lamp];
            return perNight < 1 ? 0 : Math.min(oil[lamp] / perNight, wick[lamp]);
        }

        int nightsOneByOne(int lamp) {
            int oilLeft = oil[lamp];
            int nights = 0;
            while (nights < wick[lamp] && oilLeft >= brightness[lamp]) {
                oilLeft -= brightness[lamp];
                nights++;
            }
            return nights;
        }

        int glowIn(int wantedStreet) {
            int glow = 0;
            for (int lamp = 0; lamp < count; lamp++) {
                if (street[lamp] == wantedStreet && readyToBurn(lamp)) {
                    glow += brightness[lamp];
                }
            }
            return glow;
        }

        int sharesFor(int cap) {
            int votes = 0;
            for (int lamp = 0; lamp < count; lamp++) {
                if (brightness[lamp] <= cap) {
                    votes += shares[lamp];
                }
            }
            return votes;
        }

        boolean wouldCarry(int cap) {
            return 2 * sharesFor(cap) > allShares();
        }

        boolean voteOnCap(int cap) {
            if (!wouldCarry(cap)) {
                return false;
            }
            for (int lamp = 0; lamp < count; lamp++) {
                brightness[lamp] = Math.min(brightness[lamp], cap);
            }
            return true;
        }
    }

    private static final class Moths {
        int count = 0;
        final int[] circled = new int[MAX_MOTHS];
        final int[] strikes = new int[MAX_MOTHS];
        /** The nights of probation that are left; none are left to a member. */
        final int[] probation = new int[MAX_MOTHS];

        boolean has(int moth) {
            return moth >= 0 && moth < count;
        }

        boolean onProbation(int moth) {
            return probation[moth] > 0;
        }

        int append(int lamp) {
            int moth = count;
            circled[moth] = lamp;
            strikes[moth] = 0;
            probation[moth] = PROBATION_NIGHTS;
            count++;
            return moth;
        }

        void forgetLamp(int lamp) {
            for (int moth = 0; moth < count; moth++) {
                if (circled[moth] == lamp) {
                    circled[moth] = NO_LAMP;
                } else if (circled[moth] > lamp) {
                    circled[moth]--;
                }
            }
        }

        void dismissStruck() {
            int kept = 0;
            for (int moth = 0; moth < count; moth++) {
                if (strikes[moth] < MAX_STRIKES) {
                    circled[kept] = circled[moth];
                    strikes[kept] = strikes[moth];
                    probation[kept] = probation[moth];
                    kept++;
                }
            }
            count = kept;
        }

        void copyFrom(Moths other) {
            count = other.count;
            System.arraycopy(other.circled, 0, circled, 0, MAX_MOTHS);
            System.arraycopy(other.strikes, 0, strikes, 0, MAX_MOTHS);
            System.arraycopy(other.probation, 0, probation, 0, MAX_MOTHS);
        }
    }

    /** What belongs to no lamp, and the totals against which isBalanced checks everything. */
    private static final class Books {
        int reserve = 0;
        int pool = 0;
        int treasury = 0;
        int nights = 0;
        int oilDelivered = 0;
        int oilBurned = 0;
        int oilEaten = 0;
        int wickDonated = 0;
        int wickBurned = 0;
        int subsidies = 0;

        void copyFrom(Books other) {
            reserve = other.reserve;
            pool = other.pool;
            treasury = other.treasury;
            nights = other.nights;
            oilDelivered = other.oilDelivered;
            oilBurned = other.oilBurned;
            oilEaten = other.oilEaten;
            wickDonated = other.wickDonated;
            wickBurned = other.wickBurned;
            subsidies = other.subsidies;
        }
    }

    /** All that is undone, saved and restored; each change is asked for its refusal before it is made. */
    private static final class State {
        final Lamps lamps = new Lamps();
        final Moths moths = new Moths();
        final Books books = new Books();

        void copyFrom(State other) {
            lamps.copyFrom(other.lamps);
            moths.copyFrom(other.moths);
            books.copyFrom(other.books);
        }

        Refusal refusalToAddLamp(int street, int shares) {
            if (!within(street, 0, STREETS - 1) || !within(shares, 1, MAX_SHARES)) {
                return Refusal.ARGUMENT;
            }
            return lamps.count >= MAX_LAMPS ? Refusal.STATE : Refusal.NONE;
        }

        Refusal refusalToDropLamp(int lamp) {
            if (!lamps.has(lamp)) {
                return Refusal.INDEX;
            }
            return books.pool + lamps.wick[lamp] > MAX_POOL ? Refusal.STATE : Refusal.NONE;
        }

        int dropLamp(int lamp) {
            books.reserve += lamps.oil[lamp];
            books.pool += lamps.wick[lamp];
            books.treasury += lamps.balance[lamp];
            lamps.closeGap(lamp);
            moths.forgetLamp(lamp);
            return lamps.count;
        }

        Refusal refusalOnLamp(int lamp, int value, int highest) {
            if (!lamps.has(lamp)) {
                return Refusal.INDEX;
            }
            return within(value, 1, highest) ? Refusal.NONE : Refusal.ARGUMENT;
        }

        Refusal refusalToDeliver(int amount) {
            if (!within(amount, 1, MAX_DELIVERY)) {
                return Refusal.ARGUMENT;
            }
            return lamps.count == 0 ? Refusal.STATE : Refusal.NONE;
        }

        int pourOil(int amount, Apportionment apportionment) {
            apportionment.divideBySorting(lamps, amount);
            int poured = 0;
            for (int lamp = 0; lamp < lamps.count; lamp++) {
                int fitting = Math.min(apportionment.portion[lamp], TANK - lamps.oil[lamp]);
                lamps.oil[lamp] += fitting;
                poured += fitting;
            }
            books.reserve += amount - poured;
            books.oilDelivered += amount;
            return poured;
        }

        Refusal refusalToBuy(int lamp, int units) {
            Refusal refusal = refusalOnLamp(lamp, units, TANK);
            if (refusal != Refusal.NONE) {
                return refusal;
            }
            boolean possible = books.reserve >= units && TANK - lamps.oil[lamp] >= units
                    && lamps.balance[lamp] >= units;
            return possible ? Refusal.NONE : Refusal.STATE;
        }

        int sellOil(int lamp, int units) {
            books.reserve -= units;
            lamps.oil[lamp] += units;
            lamps.balance[lamp] -= units;
            books.treasury += units;
            return lamps.oil[lamp];
        }

        Refusal refusalToDonate(int units) {
            if (!within(units, 1, MAX_DONATION)) {
                return Refusal.ARGUMENT;
            }
            return books.pool + units > MAX_POOL ? Refusal.STATE : Refusal.NONE;
        }

        int takeDonation(int units) {
            books.pool += units;
            books.wickDonated += units;
            return books.pool;
        }

        Refusal refusalToGive(int lamp, int units) {
            Refusal refusal = refusalOnLamp(lamp, units, MAX_WICK);
            if (refusal != Refusal.NONE) {
                return refusal;
            }
            boolean possible = books.pool >= units && lamps.wick[lamp] + units <= MAX_WICK;
            return possible ? Refusal.NONE : Refusal.STATE;
        }

        Refusal refusalToReturn(int lamp, int units) {
            Refusal refusal = refusalOnLamp(lamp, units, MAX_WICK);
            if (refusal != Refusal.NONE) {
                return refusal;
            }
            boolean possible = lamps.wick[lamp] >= units && books.pool + units <= MAX_POOL;
            return possible ? Refusal.NONE : Refusal.STATE;
        }

        int moveWickToLamp(int lamp, int units) {
            books.pool -= units;
            lamps.wick[lamp] += units;
            return lamps.wick[lamp];
        }

        Refusal refusalToPay() {
            return lamps.count == 0 || books.treasury == 0 ? Refusal.STATE : Refusal.NONE;
        }

        int shareTreasury(Apportionment apportionment) {
            int paid = books.treasury;
            apportionment.divideBySorting(lamps, paid);
            for (int lamp = 0; lamp < lamps.count; lamp++) {
                lamps.balance[lamp] += apportionment.portion[lamp];
            }
            books.treasury = 0;
            return paid;
        }

        Refusal refusalToPortion(int lamp, int amount) {
            if (!lamps.has(lamp)) {
                return Refusal.INDEX;
            }
            return within(amount, 0, MAX_PORTIONED) ? Refusal.NONE : Refusal.ARGUMENT;
        }

        Refusal refusalToAddMoth(int lamp) {
            if (!lamps.has(lamp)) {
                return Refusal.INDEX;
            }
            return moths.count >= MAX_MOTHS ? Refusal.STATE : Refusal.NONE;
        }

        Refusal refusalToPropose(int cap) {
            if (!within(cap, 1, MAX_BRIGHTNESS)) {
                return Refusal.ARGUMENT;
            }
            return lamps.count == 0 ? Refusal.STATE : Refusal.NONE;
        }

        boolean totalsBalance() {
            int oilFound = lamps.sumOf(lamps.oil) + books.reserve + books.oilBurned + books.oilEaten;
            int wickFound = lamps.sumOf(lamps.wick) + books.pool + books.wickBurned;
            int coinsFound = lamps.sumOf(lamps.balance) + books.treasury;
            return oilFound == books.oilDelivered && wickFound == books.wickDonated
                    && coinsFound == books.subsidies;
        }
    }

    /** The four steps of a night; which lamps burned is kept because the later steps ask for it. */
    private static final class Night {
        private final boolean[] burned = new boolean[MAX_LAMPS];

        int pass(State state) {
            int burning = burnLamps(state.lamps, state.books);
            letMothsAct(state);
            state.moths.dismissStruck();
            paySubsidies(state.lamps, state.books);
            state.books.nights++;
            return burning;
        }

        private int burnLamps(Lamps lamps, Books books) {
            int burning = 0;
            for (int lamp = 0; lamp < lamps.count; lamp++) {
                burned[lamp] = lamps.readyToBurn(lamp);
                if (burned[lamp]) {
                    lamps.oil[lamp] -= lamps.brightness[lamp];
                    lamps.wick[lamp]--;
                    books.oilBurned += lamps.brightness[lamp];
                    books.wickBurned++;
                    burning++;
                }
            }
            return burning;
        }

        private void letMothsAct(State state) {
            for (int moth = 0; moth < state.moths.count; moth++) {
                int lamp = state.moths.circled[moth];
                boolean atBurningLamp = state.lamps.has(lamp) && burned[lamp];
                if (!state.moths.onProbation(moth)) {
                    if (atBurningLamp && state.lamps.oil[lamp] > 0) {
                        state.lamps.oil[lamp]--;
                        state.books.oilEaten++;
                    }
                } else if (atBurningLamp) {
                    state.moths.strikes[moth]++;
                } else {
                    state.moths.probation[moth]--;
                }
            }
        }

        private void paySubsidies(Lamps lamps, Books books) {
            for (int street = 0; street < STREETS; street++) {
                if (!burnedIn(street, lamps)) {
                    books.treasury += SUBSIDY;
                    books.subsidies += SUBSIDY;
                }
            }
        }

        private boolean burnedIn(int street, Lamps lamps) {
            for (int lamp = 0; lamp < lamps.count; lamp++) {
                if (lamps.street[lamp] == street && burned[lamp]) {
                    return true;
                }
            }
            return false;
        }
    }

    /** Largest remainders, found in two ways that share nothing after the quotas, so that they can check each other. */
    private static final class Apportionment {
        final int[] portion = new int[MAX_LAMPS];
        private final int[] remainder = new int[MAX_LAMPS];
        private final int[] order = new int[MAX_LAMPS];

        void divideBySorting(Lamps lamps, int amount) {
            int left = giveQuotas(lamps, amount);
            sortByRemainder(lamps.count);
            for (int place = 0; place < left && place < lamps.count; place++) {
                portion[order[place]]++;
            }
        }

        void divideInRounds(Lamps lamps, int amount) {
            int left = giveQuotas(lamps, amount);
            for (int round = 0; round < left && round < lamps.count; round++) {
                int lamp = greatestRemainder(lamps.count);
                portion[lamp]++;
                // Below every true remainder, so that no lamp is served twice.
                remainder[lamp] = -1;
            }
        }

        private int giveQuotas(Lamps lamps, int amount) {
            int allShares = lamps.sumOf(lamps.shares);
            if (allShares < 1) {
                return 0;
            }
            int left = amount;
            for (int lamp = 0; lamp < lamps.count; lamp++) {
                int product = amount * lamps.shares[lamp];
                portion[lamp] = product / allShares;
                remainder[lamp] = product % allShares;
                left -= portion[lamp];
            }
            return left;
        }

        private void sortByRemainder(int count) {
            for (int lamp = 0; lamp < count; lamp++) {
                int place = lamp;
                // Only smaller remainders give way: of equal ones the lower number stays ahead.
                while (place > 0 && remainder[order[place - 1]] < remainder[lamp]) {
                    order[place] = order[place - 1];
                    place--;
                }
                order[place] = lamp;
            }
        }

        private int greatestRemainder(int count) {
            int greatest = 0;
            for (int lamp = 1; lamp < count; lamp++) {
                if (remainder[lamp] > remainder[greatest]) {
                    greatest = lamp;
                }
            }
            return greatest;
        }
    }

    /** The states before the last modifications, in a ring that is written over and over. */
    private static final class History {
        int size = 0;
        private int next = 0;
        private final State[] ring = new State[UNDO_DEPTH];

        History() {
            for (int place = 0; place < UNDO_DEPTH; place++) {
                ring[place] = new State();
            }
        }

        void remember(State before) {
            ring[next].copyFrom(before);
            next = (next + 1) % UNDO_DEPTH;
            size = Math.min(size + 1, UNDO_DEPTH);
        }

        void takeBack(State target) {
            next = (next + UNDO_DEPTH - 1) % UNDO_DEPTH;
            target.copyFrom(ring[next]);
            size--;
        }
    }

    private enum Verb {
        LAMP("lamp", 2, false),
        REMOVE("remove", 1, false),
        OIL("oil", 0, true),
        WICK("wick", 0, true),
        GIVE("give", 2, false),
        BRIGHT("bright", 2, false),
        ON("on", 1, false),
        OFF("off", 1, false),
        MOTH("moth", 1, false),
        CAP("cap", 1, false),
        NIGHT("night", 0, false),
        PAY("pay", 0, false),
        BUY("buy", 1, true);

        final String word;
        final int digits;
        final boolean hasNumber;

        Verb(String word, int digits, boolean hasNumber) {
            this.word = word;
            this.digits = digits;
            this.hasNumber = hasNumber;
        }
    }

    /** The text buffer and what its last reading found. */
    private static final class CommandText {
        private static final Verb[] VERBS = Verb.values();
        /** The shortest command has 3 characters, and a ";" stands between two commands. */
        private static final int MAX_COMMANDS = (MAX_TEXT + 1) / 4;
        private static final int MAX_NUMBER_DIGITS = 3;

        private final char[] characters = new char[MAX_TEXT];
        int length = 0;
        /** Where the reading stands; after a malformed text its error position. */
        int position = 0;
        int commands = 0;
        final Verb[] verbs = new Verb[MAX_COMMANDS];
        final int[] firsts = new int[MAX_COMMANDS];
        final int[] seconds = new int[MAX_COMMANDS];

        boolean isFull() {
            return length >= MAX_TEXT;
        }

        int append(char character) {
            characters[length] = character;
            length++;
            return length;
        }

        /** Answers whether the text is well formed. */
        boolean parse() {
            position = 0;
            commands = 0;
            for (int command = 0; command < MAX_COMMANDS; command++) {
                if (!readCommand(command)) {
                    return false;
                }
                commands = command + 1;
                if (position >= length) {
                    return true;
                }
                if (!readCharacter(';')) {
                    return false;
                }
            }
            return false;
        }

        private boolean readCommand(int command) {
            Verb verb = readVerb();
            if (verb == null) {
                return false;
            }
            verbs[command] = verb;
            firsts[command] = 0;
            seconds[command] = 0;
            int arguments = verb.hasNumber ? verb.digits + 1 : verb.digits;
            for (int argument = 0; argument < arguments; argument++) {
                int digits = argument < verb.digits ? 1 : MAX_NUMBER_DIGITS;
                int value = readValue(digits);
                if (value < 0) {
                    return false;
                }
                if (argument == 0) {
                    firsts[command] = value;
                } else {
                    seconds[command] = value;
                }
            }
            return true;
        }

        /** Moves behind the verb, or behind the longest beginning of one when there is no whole verb. */
        private Verb readVerb() {
            int longest = 0;
            for (Verb verb : VERBS) {
                int matching = matchingLength(verb.word);
                if (matching == verb.word.length()) {
                    position += matching;
                    return verb;
                }
                longest = Math.max(longest, matching);
            }
            position += longest;
            return null;
        }

        private int matchingLength(String word) {
            int matching = 0;
            while (matching < word.length() && position + matching < length
                    && characters[position + matching] == word.charAt(matching)) {
                matching++;
            }
            return matching;
        }

        /** Reads a blank and one to so many digits; answers -1 if they do not stand there. */
        private int readValue(int mostDigits) {
            if (!readCharacter(' ') || !atDigit()) {
                return -1;
            }
            int value = 0;
            for (int digit = 0; digit < mostDigits && atDigit(); digit++) {
                value = 10 * value + (characters[position] - '0');
                position++;
            }
            return value;
        }

        private boolean readCharacter(char wanted) {
            if (position >= length || characters[position] != wanted) {
                return false;
            }
            position++;
            return true;
        }

        private boolean atDigit() {
            return position < length && characters[position] >= '0' && characters[position] <= '9';
        }
    }
}
