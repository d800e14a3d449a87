import java.util.ArrayDeque;
import java.util.ArrayList;
import java.util.Comparator;
import java.util.Deque;
import java.util.List;
import java.util.NoSuchElementException;
import java.util.Random;
import java.util.function.Supplier;
import java.util.regex.Matcher;
import java.util.regex.Pattern;

/**
 * Long runs of calls on the class and on a second, slow program that was written from the document in another way:
 * lamps and moths as objects, whole copies for undo, a regular expression for the texts.
 */
public final class LampCooperativeAgainstModel {
    private static final int RUNS = 10000;
    /** What an object answers after so many calls is free. */
    private static final int CALLS = 512;
    /** A step is one call, or a text with the calls that follow it; a view asks for all of 8 lamps and 6 moths. */
    private static final int CALLS_OF_A_STEP = 90;
    private static final int CALLS_OF_A_VIEW = 90;

    private static final class Lamp {
        final int street;
        int shares;
        int brightness = 1;
        boolean on = true;
        int oil = 0;
        int wick = 0;
        int balance = 0;

        Lamp(int street, int shares) {
            this.street = street;
            this.shares = shares;
        }

        Lamp copy() {
            Lamp copy = new Lamp(street, shares);
            copy.brightness = brightness;
            copy.on = on;
            copy.oil = oil;
            copy.wick = wick;
            copy.balance = balance;
            return copy;
        }

        boolean canBurn() {
            return on && oil >= brightness && wick > 0;
        }

        int nights() {
            int nights = 0;
            for (int oilLeft = oil, wickLeft = wick; oilLeft >= brightness && wickLeft > 0; wickLeft--) {
                oilLeft -= brightness;
                nights++;
            }
            return nights;
        }

        String written(int number) {
            return number + ":" + street + "*" + brightness + "o" + oil + "w" + wick + (on ? "" : "!");
        }
    }

    private static final class Moth {
        Lamp lamp;
        int strikes = 0;
        int probation = 3;
        boolean member = false;
    }

    private static final class World {
        final List<Lamp> lamps = new ArrayList<>();
        final List<Moth> moths = new ArrayList<>();
        int reserve = 0;
        int pool = 0;
        int treasury = 0;
        int nights = 0;

        World copy() {
            World copy = new World();
            for (Lamp lamp : lamps) {
                copy.lamps.add(lamp.copy());
            }
            for (Moth moth : moths) {
                Moth other = new Moth();
                other.lamp = moth.lamp == null ? null : copy.lamps.get(lamps.indexOf(moth.lamp));
                other.strikes = moth.strikes;
                other.probation = moth.probation;
                other.member = moth.member;
                copy.moths.add(other);
            }
            copy.reserve = reserve;
            copy.pool = pool;
            copy.treasury = treasury;
            copy.nights = nights;
            return copy;
        }

        int shares() {
            return lamps.stream().mapToInt(lamp -> lamp.shares).sum();
        }

        /** Quotas as fractions of all shares: the units that are left go to the lamps in a sorted list. */
        int[] apportion(int amount) {
            int all = shares();
            int[] portions = new int[lamps.size()];
            List<Integer> order = new ArrayList<>();
            int given = 0;
            for (int lamp = 0; lamp < portions.length; lamp++) {
                portions[lamp] = Math.floorDiv(amount * lamps.get(lamp).shares, all);
                given += portions[lamp];
                order.add(lamp);
            }
            order.sort(Comparator.comparing(
                    (Integer lamp) -> -Math.floorMod(amount * lamps.get(lamp).shares, all)).thenComparing(l -> l));
            for (int unit = 0; unit < amount - given; unit++) {
                portions[order.get(unit)]++;
            }
            return portions;
        }
    }

    private static final Pattern GRAMMAR;

    static {
        String digit = " [0-9]";
        String number = " [0-9]{1,3}";
        String command = "(?:lamp" + digit + digit + "|remove" + digit + "|oil" + number + "|wick" + number + "|give"
                + digit + digit + "|bright" + digit + digit + "|on" + digit + "|off" + digit + "|moth" + digit + "|cap"
                + digit + "|night|pay|buy" + digit + number + ")";
        GRAMMAR = Pattern.compile(command + "(?:;" + command + ")*");
    }

    private static final class Model {
        World world = new World();
        World saved = null;
        final Deque<World> past = new ArrayDeque<>();
        String text = "";
        String line = "";
        Integer errorPosition = null;
        Integer failedCommand = null;
        boolean inText = false;

        private void change() {
            if (inText) {
                return;
            }
            past.addLast(world.copy());
            if (past.size() > 8) {
                past.removeFirst();
            }
        }

        private Lamp lamp(int lamp) {
            index(lamp >= 0 && lamp < world.lamps.size());
            return world.lamps.get(lamp);
        }

        private Moth moth(int moth) {
            index(moth >= 0 && moth < world.moths.size());
            return world.moths.get(moth);
        }

        private static void index(boolean fine) {
            if (!fine) {
                throw new IndexOutOfBoundsException();
            }
        }

        private static void argument(boolean fine) {
            if (!fine) {
                throw new IllegalArgumentException();
            }
        }

        private static void state(boolean fine) {
            if (!fine) {
                throw new IllegalStateException();
            }
        }

        private static void element(boolean fine) {
            if (!fine) {
                throw new NoSuchElementException();
            }
        }

        Object call(String name, int a, int b) {
            Lamp lamp;
            Moth moth;
            int previous;
            boolean was;
            int sum = 0;
            switch (name) {
                case "addLamp":
                    argument(a >= 0 && a <= 3 && b >= 1 && b <= 9);
                    state(world.lamps.size() < 8);
                    change();
                    world.lamps.add(new Lamp(a, b));
                    return world.lamps.size() - 1;
                case "removeLamp":
                    lamp = lamp(a);
                    state(world.pool + lamp.wick <= 99);
                    change();
                    world.lamps.remove(a);
                    world.reserve += lamp.oil;
                    world.pool += lamp.wick;
                    world.treasury += lamp.balance;
                    for (Moth other : world.moths) {
                        other.lamp = other.lamp == lamp ? null : other.lamp;
                    }
                    return world.lamps.size();
                case "setShares":
                    lamp = lamp(a);
                    argument(b >= 1 && b <= 9);
                    change();
                    previous = lamp.shares;
                    lamp.shares = b;
                    return previous;
                case "setBrightness":
                    lamp = lamp(a);
                    argument(b >= 1 && b <= 5);
                    change();
                    previous = lamp.brightness;
                    lamp.brightness = b;
                    return previous;
                case "switchOn":
                case "switchOff":
                    lamp = lamp(a);
                    change();
                    was = lamp.on;
                    lamp.on = name.equals("switchOn");
                    return was != lamp.on;
                case "deliverOil":
                    argument(a >= 1 && a <= 200);
                    state(!world.lamps.isEmpty());
                    change();
                    int[] portions = world.apportion(a);
                    for (int number = 0; number < portions.length; number++) {
                        lamp = lamp(number);
                        int room = 60 - lamp.oil;
                        int fits = Math.min(room, portions[number]);
                        lamp.oil += fits;
                        sum += fits;
                        world.reserve += portions[number] - fits;
                    }
                    return sum;
                case "buyOil":
                    lamp = lamp(a);
                    argument(b >= 1 && b <= 60);
                    state(world.reserve >= b);
                    state(lamp.oil + b <= 60);
                    state(lamp.balance >= b);
                    change();
                    world.reserve -= b;
                    lamp.oil += b;
                    lamp.balance -= b;
                    world.treasury += b;
                    return lamp.oil;
                case "donateWicks":
                    argument(a >= 1 && a <= 50);
                    state(world.pool + a <= 99);
                    change();
                    return world.pool += a;
                case "giveWick":
                    lamp = lamp(a);
                    argument(b >= 1 && b <= 9);
                    state(world.pool >= b && lamp.wick + b <= 9);
                    change();
                    world.pool -= b;
                    return lamp.wick += b;
                case "returnWick":
                    lamp = lamp(a);
                    argument(b >= 1 && b <= 9);
                    state(lamp.wick >= b && world.pool + b <= 99);
                    change();
                    world.pool += b;
                    return lamp.wick -= b;
                case "payDividend":
                    state(!world.lamps.isEmpty() && world.treasury > 0);
                    change();
                    int[] coins = world.apportion(world.treasury);
                    for (int number = 0; number < coins.length; number++) {
                        lamp(number).balance += coins[number];
                        sum += coins[number];
                    }
                    world.treasury -= sum;
                    return sum;
                case "portionOf":
                case "portionByRounds":
                    lamp(a);
                    argument(b >= 0 && b <= 999);
                    return world.apportion(b)[a];
                case "addMoth":
                    lamp = lamp(a);
                    state(world.moths.size() < 6);
                    change();
                    moth = new Moth();
                    moth.lamp = lamp;
                    world.moths.add(moth);
                    return world.moths.size() - 1;
                case "moveMoth":
                    moth = moth(a);
                    lamp = b == -1 ? null : lamp(b);
                    change();
                    // The change copies the past, so moth and lamp are still those of the present.
                    previous = world.lamps.indexOf(moth.lamp);
                    moth.lamp = lamp;
                    return previous;
                case "burnNight":
                    change();
                    return night();
                case "proposeCap":
                    argument(a >= 1 && a <= 5);
                    state(!world.lamps.isEmpty());
                    change();
                    if (!carried(a)) {
                        return false;
                    }
                    for (Lamp each : world.lamps) {
                        each.brightness = each.brightness > a ? a : each.brightness;
                    }
                    return true;
                default:
                    return queryOrText(name, a);
            }
        }

        private int votes(int cap) {
            return world.lamps.stream().filter(lamp -> lamp.brightness <= cap).mapToInt(lamp -> lamp.shares).sum();
        }

        private boolean carried(int cap) {
            return votes(cap) > world.shares() - votes(cap);
        }

        private int glow(int street) {
            index(street >= 0 && street <= 3);
            return world.lamps.stream().filter(lamp -> lamp.street == street && lamp.canBurn())
                    .mapToInt(lamp -> lamp.brightness).sum();
        }

        private int ranked(int rank, Comparator<Lamp> greatestFirst) {
            element(rank >= 0 && rank < world.lamps.size());
            List<Lamp> order = new ArrayList<>(world.lamps);
            order.sort(greatestFirst);
            return world.lamps.indexOf(order.get(rank));
        }

        private int night() {
            List<Lamp> burning = new ArrayList<>();
            boolean[] lit = new boolean[4];
            for (Lamp lamp : world.lamps) {
                if (lamp.canBurn()) {
                    burning.add(lamp);
                    lit[lamp.street] = true;
                    lamp.oil -= lamp.brightness;
                    lamp.wick -= 1;
                }
            }
            for (Moth moth : world.moths) {
                boolean circlesFire = burning.contains(moth.lamp);
                if (moth.member) {
                    if (circlesFire) {
                        moth.lamp.oil = Math.max(0, moth.lamp.oil - 1);
                    }
                } else if (circlesFire) {
                    moth.strikes++;
                } else {
                    moth.probation--;
                    moth.member = moth.probation == 0;
                }
            }
            world.moths.removeIf(moth -> moth.strikes == 2);
            for (boolean street : lit) {
                world.treasury += street ? 0 : 3;
            }
            world.nights++;
            return burning.size();
        }

        private Object queryOrText(String name, int a) {
            switch (name) {
                case "canBurn":
                    return lamp(a).canBurn();
                case "nightsOf":
                case "nightsBySimulation":
                    return lamp(a).nights();
                case "glowOf":
                    return glow(a);
                case "isDark":
                    index(a >= 0 && a <= 3);
                    return world.lamps.stream().noneMatch(lamp -> lamp.street == a && lamp.canBurn());
                case "brightestStreet":
                    int best = 3;
                    for (int street = 2; street >= 0; street--) {
                        best = glow(street) >= glow(best) ? street : best;
                    }
                    return best;
                case "votesFor":
                    argument(a >= 1 && a <= 5);
                    return votes(a);
                case "lowestCap":
                    element(!world.lamps.isEmpty());
                    int cap = 5;
                    while (cap > 1 && carried(cap - 1)) {
                        cap--;
                    }
                    return cap;
                case "totalShares":
                    return world.shares();
                case "richestLamp":
                    return ranked(a, Comparator.comparing(lamp -> -lamp.balance));
                case "longestLamp":
                    return ranked(a, Comparator.comparing(lamp -> -lamp.nights()));
                case "writeLamp":
                    line = lamp(a).written(a);
                    return line.length();
                case "lineAt":
                    index(a >= 0 && a < line.length());
                    return line.charAt(a);
                case "meanOil":
                    if (world.lamps.isEmpty()) {
                        throw new ArithmeticException();
                    }
                    return (double) world.lamps.stream().mapToInt(lamp -> lamp.oil).sum() / (double) world.lamps.size();
                case "isBalanced":
                    return true;
                case "type":
                    argument((char) a >= 32 && (char) a <= 126);
                    state(text.length() < 60);
                    text += (char) a;
                    return text.length();
                case "execute":
                    return execute();
                case "errorPosition":
                    element(errorPosition != null);
                    return errorPosition;
                case "failedCommand":
                    element(failedCommand != null);
                    return failedCommand;
                case "undo":
                    state(!past.isEmpty());
                    world = past.removeLast();
                    return past.size();
                case "save":
                    saved = world.copy();
                    return world.lamps.size();
                case "restore":
                    state(saved != null);
                    world = saved.copy();
                    past.clear();
                    return world.lamps.size();
                default:
                    throw new AssertionError(name);
            }
        }

        private int execute() {
            String whole = text;
            text = "";
            if (!GRAMMAR.matcher(whole).matches()) {
                int viable = 0;
                while (viable < whole.length() && canContinue(whole.substring(0, viable + 1))) {
                    viable++;
                }
                errorPosition = viable;
                throw new IllegalArgumentException();
            }
            World before = world.copy();
            String[] commands = whole.split(";");
            inText = true;
            try {
                for (int command = 0; command < commands.length; command++) {
                    try {
                        run(commands[command].split(" "));
                    } catch (RuntimeException e) {
                        world = before;
                        failedCommand = command;
                        throw new IllegalStateException();
                    }
                }
            } finally {
                inText = false;
            }
            World after = world;
            world = before;
            change();
            world = after;
            return commands.length;
        }

        private static boolean canContinue(String start) {
            Matcher matcher = GRAMMAR.matcher(start);
            return matcher.matches() || matcher.hitEnd();
        }

        private void run(String[] words) {
            String[][] names = {{"lamp", "addLamp"}, {"remove", "removeLamp"}, {"oil", "deliverOil"},
                {"wick", "donateWicks"}, {"give", "giveWick"}, {"bright", "setBrightness"}, {"on", "switchOn"},
                {"off", "switchOff"}, {"moth", "addMoth"}, {"cap", "proposeCap"}, {"night", "burnNight"},
                {"pay", "payDividend"}, {"buy", "buyOil"}};
            for (String[] name : names) {
                if (name[0].equals(words[0])) {
                    call(name[1], words.length > 1 ? Integer.parseInt(words[1]) : 0,
                            words.length > 2 ? Integer.parseInt(words[2]) : 0);
                }
            }
        }

        String view() {
            StringBuilder all = new StringBuilder();
            for (Lamp lamp : world.lamps) {
                all.append(lamp.written(0)).append(' ').append(lamp.shares).append(' ');
                all.append(lamp.balance).append('\n');
            }
            for (Moth moth : world.moths) {
                all.append(world.lamps.indexOf(moth.lamp)).append(' ').append(moth.strikes).append(' ');
                all.append(moth.probation).append(' ').append(moth.member).append('\n');
            }
            all.append(world.reserve).append(' ').append(world.pool).append(' ').append(world.treasury).append(' ');
            return all.append(world.nights).toString();
        }
    }

    private static String view(LampCooperative x) {
        StringBuilder all = new StringBuilder();
        int lamps = x.lampCount();
        for (int lamp = 0; lamp < lamps; lamp++) {
            all.append("0:").append(x.streetOf(lamp)).append('*').append(x.brightnessOf(lamp)).append('o');
            all.append(x.oilOf(lamp)).append('w').append(x.wickOf(lamp)).append(x.isOn(lamp) ? "" : "!").append(' ');
            all.append(x.sharesOf(lamp)).append(' ').append(x.balanceOf(lamp)).append('\n');
        }
        int moths = x.mothCount();
        for (int moth = 0; moth < moths; moth++) {
            all.append(x.lampOfMoth(moth)).append(' ').append(x.strikesOf(moth)).append(' ');
            all.append(x.probationOf(moth)).append(' ').append(x.isMember(moth)).append('\n');
        }
        all.append(x.reserve()).append(' ').append(x.pool()).append(' ').append(x.treasury()).append(' ');
        return all.append(x.nightCount()).toString();
    }

    private static Object call(LampCooperative x, String name, int a, int b) {
        switch (name) {
            case "addLamp": return x.addLamp(a, b);
            case "removeLamp": return x.removeLamp(a);
            case "setShares": return x.setShares(a, b);
            case "setBrightness": return x.setBrightness(a, b);
            case "switchOn": return x.switchOn(a);
            case "switchOff": return x.switchOff(a);
            case "deliverOil": return x.deliverOil(a);
            case "buyOil": return x.buyOil(a, b);
            case "donateWicks": return x.donateWicks(a);
            case "giveWick": return x.giveWick(a, b);
            case "returnWick": return x.returnWick(a, b);
            case "payDividend": return x.payDividend();
            case "portionOf": return x.portionOf(a, b);
            case "portionByRounds": return x.portionByRounds(a, b);
            case "addMoth": return x.addMoth(a);
            case "moveMoth": return x.moveMoth(a, b);
            case "burnNight": return x.burnNight();
            case "proposeCap": return x.proposeCap(a);
            case "canBurn": return x.canBurn(a);
            case "nightsOf": return x.nightsOf(a);
            case "nightsBySimulation": return x.nightsBySimulation(a);
            case "glowOf": return x.glowOf(a);
            case "isDark": return x.isDark(a);
            case "brightestStreet": return x.brightestStreet();
            case "votesFor": return x.votesFor(a);
            case "lowestCap": return x.lowestCap();
            case "totalShares": return x.totalShares();
            case "richestLamp": return x.richestLamp(a);
            case "longestLamp": return x.longestLamp(a);
            case "writeLamp": return x.writeLamp(a);
            case "lineAt": return x.lineAt(a);
            case "meanOil": return x.meanOil();
            case "isBalanced": return x.isBalanced();
            case "type": return x.type((char) a);
            case "execute": return x.execute();
            case "errorPosition": return x.errorPosition();
            case "failedCommand": return x.failedCommand();
            case "undo": return x.undo();
            case "save": return x.save();
            case "restore": return x.restore();
            default: throw new AssertionError(name);
        }
    }

    private static final String[] NAMES = {"addLamp", "addLamp", "addLamp", "removeLamp", "setShares", "setBrightness",
        "setBrightness", "switchOn", "switchOff", "deliverOil", "deliverOil", "buyOil", "buyOil", "buyOil",
        "donateWicks", "donateWicks", "giveWick", "giveWick", "giveWick", "giveWick", "returnWick", "payDividend",
        "portionOf", "portionByRounds", "addMoth", "addMoth", "moveMoth", "moveMoth", "burnNight", "burnNight",
        "burnNight", "burnNight", "proposeCap", "canBurn", "nightsOf", "nightsBySimulation", "glowOf", "isDark",
        "brightestStreet", "votesFor", "lowestCap", "totalShares", "richestLamp", "longestLamp", "writeLamp", "lineAt",
        "meanOil", "isBalanced", "type", "execute", "errorPosition", "failedCommand", "undo", "save", "restore"};

    private static final String[] COMMANDS = {"lamp 0 5", "lamp 3 9", "lamp 1 2", "lamp 4 1", "remove 0", "remove 5",
        "oil 7", "oil 200", "oil 035", "wick 9", "wick 50", "give 0 1", "give 1 4", "give 0 9", "bright 0 5",
        "bright 1 3", "on 0", "off 1", "moth 0", "moth 1", "cap 2", "cap 4", "night", "night", "pay", "buy 0 1",
        "buy 1 12", "buy 0 060"};

    private static int number(Random random) {
        switch (random.nextInt(20)) {
            case 0: return random.nextInt();
            case 1: return random.nextBoolean() ? Integer.MIN_VALUE : Integer.MAX_VALUE;
            case 2: case 3: return random.nextInt(260) - 20;
            case 4: case 5: return random.nextInt(70) - 5;
            case 6: case 7: case 8: return random.nextInt(12) - 2;
            case 9: case 10: return random.nextInt(1010) - 5;
            case 11: case 12: case 13: return random.nextInt(10);
            default: return random.nextInt(4);
        }
    }

    private static String randomText(Random random) {
        StringBuilder text = new StringBuilder(COMMANDS[random.nextInt(COMMANDS.length)]);
        for (int more = random.nextInt(6); more > 0; more--) {
            text.append(';').append(COMMANDS[random.nextInt(COMMANDS.length)]);
        }
        if (random.nextInt(3) == 0) {
            int place = random.nextInt(text.length());
            switch (random.nextInt(3)) {
                case 0:
                    text.setCharAt(place, (char) (32 + random.nextInt(95)));
                    break;
                case 1:
                    text.deleteCharAt(place);
                    break;
                default:
                    text.insert(place, (char) (random.nextBoolean() ? ' ' : '0' + random.nextInt(12)));
                    break;
            }
        }
        if (random.nextInt(6) == 0) {
            text.setLength(random.nextInt(text.length() + 1));
        }
        return text.toString();
    }

    private static Object outcome(Supplier<Object> supplier) {
        try {
            return supplier.get();
        } catch (RuntimeException e) {
            // The class itself: what the machine throws is often a subclass of what the document names.
            return e.getClass();
        }
    }

    private static final class Run {
        final LampCooperative x = new LampCooperative();
        final Model model = new Model();
        final StringBuilder told = new StringBuilder();
        final Random random;
        int calls = 0;

        Run(long seed) {
            random = new Random(seed);
        }

        boolean agreesOn(String name, int a, int b) {
            calls++;
            Object got = outcome(() -> call(x, name, a, b));
            Object want = outcome(() -> model.call(name, a, b));
            told.append(name).append('(').append(a).append(", ").append(b).append(") -> ").append(got).append('\n');
            if (!want.equals(got)) {
                System.out.println(told + "due is " + want);
                return false;
            }
            return true;
        }

        boolean agreesOnState() {
            calls += CALLS_OF_A_VIEW;
            String got = view(x);
            if (!got.equals(model.view())) {
                System.out.println(told + "left\n" + got + "\ndue is\n" + model.view());
                return false;
            }
            return true;
        }

        boolean agreesOnText(String text) {
            for (int index = 0; index < text.length(); index++) {
                if (!agreesOn("type", text.charAt(index), 0)) {
                    return false;
                }
            }
            return agreesOn("execute", 0, 0) && agreesOn("errorPosition", 0, 0) && agreesOn("failedCommand", 0, 0);
        }

        /** Chance alone seldom fills a house or a pool. */
        private boolean agreesOnHouse() {
            int lamps = random.nextInt(9);
            boolean fine = true;
            for (int lamp = 0; fine && lamp < lamps; lamp++) {
                fine = agreesOn("addLamp", random.nextInt(4), random.nextInt(9) + 1);
            }
            for (int moth = random.nextInt(7); fine && moth > 0; moth--) {
                fine = agreesOn("addMoth", random.nextInt(8), 0);
            }
            for (int supply = random.nextInt(4); fine && supply > 0; supply--) {
                fine = agreesOn("deliverOil", random.nextInt(200) + 1, 0)
                        && agreesOn("donateWicks", random.nextInt(50) + 1, 0);
            }
            for (int lamp = 0; fine && lamp < lamps; lamp++) {
                fine = agreesOn("giveWick", lamp, random.nextInt(9) + 1);
            }
            return fine;
        }

        boolean agrees() {
            if (random.nextBoolean() && !agreesOnHouse()) {
                return false;
            }
            int textsIn = random.nextInt(30) + 2;
            int looksIn = random.nextInt(60) + 2;
            // Half of the runs look at the state, the others have the more calls for it.
            int kept = random.nextBoolean() ? 2 * CALLS_OF_A_VIEW : 0;
            while (calls + CALLS_OF_A_STEP + kept <= CALLS) {
                boolean fine = random.nextInt(textsIn) == 0 ? agreesOnText(randomText(random))
                        : agreesOn(NAMES[random.nextInt(NAMES.length)], number(random), number(random));
                if (!fine || kept > 0 && random.nextInt(looksIn) == 0 && !agreesOnState()) {
                    return false;
                }
            }
            return kept == 0 || agreesOnState();
        }
    }

    public static void main(String[] args) {
        for (long seed = 1; seed <= RUNS; seed++) {
            if (!new Run(seed).agrees()) {
                System.out.println("run " + seed + " differs from the model");
                System.exit(1);
            }
        }
        System.out.println(RUNS + " runs agree with the model");
    }
}
