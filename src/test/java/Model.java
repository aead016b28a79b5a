import java.util.ArrayList;
import java.util.LinkedList;
import java.util.List;
import java.util.regex.Matcher;
import java.util.regex.Pattern;

/**
 * The document told a second time, as plainly as can be and in another way than the program:
 * every state is a whole copy, a share is dealt out in fractions, a load is found by trying.
 */
final class Model {
    private static final int INVALID = -1;
    private static final int ILLEGAL = -2;
    private static final int FULL = -3;
    private static final int NONE = -9;

    private static final class House {
        int spades;
        int dry;
        int damp;
    }

    private static final class Place {
        int allowance;
        int strength;
        int wear;
        int cutEver;
        int cartedEver;
        int leftEver;
        List<Integer> holders = new ArrayList<>();
        int[] cutNow = new int[6];
    }

    private static final class Pile {
        int house;
        int place;
        int turfs;
        int wet = 100000;
        int turns;
    }

    private static final class World {
        int year;
        int days;
        int rain;
        List<House> houses = new ArrayList<>();
        List<Place> places = new ArrayList<>();
        List<Pile> piles = new ArrayList<>();

        World copy() {
            World made = new World();
            made.year = year;
            made.days = days;
            made.rain = rain;
            for (House h : houses) {
                House c = new House();
                c.spades = h.spades;
                c.dry = h.dry;
                c.damp = h.damp;
                made.houses.add(c);
            }
            for (Place p : places) {
                Place c = new Place();
                c.allowance = p.allowance;
                c.strength = p.strength;
                c.wear = p.wear;
                c.cutEver = p.cutEver;
                c.cartedEver = p.cartedEver;
                c.leftEver = p.leftEver;
                c.holders = new ArrayList<>(p.holders);
                c.cutNow = p.cutNow.clone();
                made.places.add(c);
            }
            for (Pile p : piles) {
                Pile c = new Pile();
                c.house = p.house;
                c.place = p.place;
                c.turfs = p.turfs;
                c.wet = p.wet;
                c.turns = p.turns;
                made.piles.add(c);
            }
            return made;
        }
    }

    /** A state of the history: worlds in it are never changed. */
    private static final class Kept {
        World world;
        World first;
        World second;
    }

    private World w = new World();
    private final World[] slots = new World[2];
    private final LinkedList<Kept> history = new LinkedList<>();
    private String text = "";

    int call(String name, int a, int b, int c) {
        switch (name) {
            case "undo": return undo();
            case "append": return append(a);
            case "clearText": return clear();
            case "run": return run();
            case "count": return count(a);
            case "household": return household(a, b);
            case "bank": return bank(a, b);
            case "right": return right(a, b, c);
            case "stack": return stack(a, b);
            case "dryIn": return dryIn(a, b, c);
            case "cartLoad": return noStack(a) ? INVALID : mostOnCart(w.piles.get(a).turfs, w.piles.get(a), bears(placeOf(a)));
            case "carts": return carts(a);
            case "worth": return worth(a, b);
            case "nextToCut": return nextToCut(a);
            default: return action(name, a, b, c);
        }
    }

    private int action(String name, int a, int b, int c) {
        Kept kept = new Kept();
        kept.world = w.copy();
        kept.first = slots[0];
        kept.second = slots[1];
        int answer = act(name, a, b, c);
        if (answer >= 0) {
            keep(kept);
        } else {
            w = kept.world;
        }
        return answer;
    }

    private void keep(Kept kept) {
        history.addLast(kept);
        if (history.size() > 5) {
            history.removeFirst();
        }
    }

    private int act(String name, int a, int b, int c) {
        switch (name) {
            case "come": return come(a);
            case "setSpades": return setSpades(a, b);
            case "addBank": return addBank(a, b);
            case "setAllowance": return setAllowance(a, b);
            case "grant": return grant(a, b, c);
            case "cut": return cut(a, b, c);
            case "turn": return turn(a);
            case "join": return join(a, b);
            case "cart": return cart(a, b);
            case "repair": return repair(a);
            case "day": return day(a, b);
            case "endYear": return endYear();
            case "take": return take(a);
            case "restore": return restore(a);
            default: throw new IllegalArgumentException(name);
        }
    }

    private static boolean out(int number, int least, int most) {
        return number < least || number > most;
    }

    private boolean noHouse(int number) {
        return out(number, 0, w.houses.size() - 1);
    }

    private boolean noBank(int number) {
        return out(number, 0, w.places.size() - 1);
    }

    private boolean noStack(int number) {
        return out(number, 0, w.piles.size() - 1);
    }

    private Place placeOf(int pile) {
        return w.places.get(w.piles.get(pile).place);
    }

    private int come(int spades) {
        if (out(spades, 1, 9)) return INVALID;
        if (w.houses.size() == 6) return FULL;
        House made = new House();
        made.spades = spades;
        w.houses.add(made);
        return w.houses.size() - 1;
    }

    private int setSpades(int house, int spades) {
        if (noHouse(house) || out(spades, 1, 9)) return INVALID;
        int old = w.houses.get(house).spades;
        w.houses.get(house).spades = spades;
        return old;
    }

    private int addBank(int allowance, int strength) {
        if (out(allowance, 0, 5000) || out(strength, 100, 3000)) return INVALID;
        if (w.places.size() == 4) return FULL;
        Place made = new Place();
        made.allowance = allowance;
        made.strength = strength;
        w.places.add(made);
        return w.places.size() - 1;
    }

    private int setAllowance(int bank, int allowance) {
        if (noBank(bank) || out(allowance, 0, 5000)) return INVALID;
        int old = w.places.get(bank).allowance;
        w.places.get(bank).allowance = allowance;
        return old;
    }

    private int grant(int house, int bank, int is) {
        if (noHouse(house) || noBank(bank) || out(is, 0, 1)) return INVALID;
        List<Integer> holders = w.places.get(bank).holders;
        holders.remove(Integer.valueOf(house));
        if (is == 1) holders.add(house);
        return holders.size();
    }

    /** The shares of all households at a bank: whole parts first, then one by one what is left. */
    private int[] shares(Place place) {
        int[] shares = new int[6];
        int spades = 0;
        for (int h : place.holders) spades += w.houses.get(h).spades;
        if (spades == 0) return shares;
        int dealt = 0;
        for (int h : place.holders) {
            while ((shares[h] + 1) * spades <= place.allowance * w.houses.get(h).spades) shares[h]++;
            dealt += shares[h];
        }
        for (int h = 0; dealt < place.allowance; h = (h + 1) % 6) {
            if (place.holders.contains(h)) {
                shares[h]++;
                dealt++;
            }
        }
        return shares;
    }

    private int cut(int house, int bank, int turfs) {
        if (noHouse(house) || noBank(bank) || out(turfs, 1, 1000)) return INVALID;
        Place place = w.places.get(bank);
        if (place.cutNow[house] + turfs > shares(place)[house]) return ILLEGAL;
        if (w.piles.size() == 12) return FULL;
        place.cutNow[house] += turfs;
        place.cutEver += turfs;
        Pile made = new Pile();
        made.house = house;
        made.place = bank;
        made.turfs = turfs;
        w.piles.add(made);
        return w.piles.size() - 1;
    }

    private int turn(int pile) {
        if (noStack(pile)) return INVALID;
        if (w.piles.get(pile).turns == 3) return FULL;
        return ++w.piles.get(pile).turns;
    }

    private int join(int one, int other) {
        if (noStack(one) || noStack(other) || one == other) return INVALID;
        Pile from = w.piles.get(one);
        Pile to = w.piles.get(other);
        if (from.house != to.house || from.place != to.place) return ILLEGAL;
        long wet = (long) from.turfs * from.wet + (long) to.turfs * to.wet;
        to.turfs += from.turfs;
        to.wet = (int) (wet / to.turfs) + (wet % to.turfs > 0 ? 1 : 0);
        if (from.turns < to.turns) to.turns = from.turns;
        w.piles.remove(one);
        return to.turfs;
    }

    private static int weight(Pile pile) {
        return 1000 + (pile.wet - pile.wet % 100) / 100;
    }

    private static int load(int turfs, Pile pile) {
        int grams = turfs * weight(pile);
        int load = 0;
        while (load * 1000 < grams) load++;
        return load;
    }

    private static int wearBy(int load) {
        return load / 50 + (load % 50 > 0 ? 1 : 0);
    }

    private int bears(Place place) {
        int bears = place.strength - 40 * w.rain - place.wear;
        return bears < 0 ? 0 : bears;
    }

    private int cart(int pile, int turfs) {
        if (noStack(pile) || out(turfs, 1, 1000)) return INVALID;
        Pile from = w.piles.get(pile);
        Place place = placeOf(pile);
        if (from.turfs < turfs) return ILLEGAL;
        int load = load(turfs, from);
        if (load > bears(place)) return ILLEGAL;
        House house = w.houses.get(from.house);
        if (from.wet <= 30000) house.dry += turfs;
        else house.damp += turfs;
        from.turfs -= turfs;
        place.cartedEver += turfs;
        place.wear += wearBy(load);
        if (from.turfs == 0) w.piles.remove(pile);
        return load;
    }

    private int repair(int bank) {
        if (noBank(bank)) return INVALID;
        int old = w.places.get(bank).wear;
        w.places.get(bank).wear = 0;
        return old;
    }

    private static int dried(int wet, int turns, int wind, int rain) {
        double x = wind * (turns + 1);
        double left = wet * (1 - x / 64);
        int then = (int) left;
        for (int i = 0; i < rain; i++) then += 1500;
        return then > 100000 ? 100000 : then;
    }

    private int day(int wind, int rain) {
        if (out(wind, 0, 9) || out(rain, 0, 9)) return INVALID;
        for (Pile pile : w.piles) pile.wet = dried(pile.wet, pile.turns, wind, rain);
        w.rain = rain;
        w.days++;
        return dryOnes();
    }

    private int dryOnes() {
        int dry = 0;
        for (Pile pile : w.piles) if (pile.wet <= 30000) dry++;
        return dry;
    }

    private int endYear() {
        if (w.year == 999) return ILLEGAL;
        int left = 0;
        while (!w.piles.isEmpty()) {
            Pile pile = w.piles.remove(0);
            w.places.get(pile.place).leftEver += pile.turfs;
            left += pile.turfs;
        }
        for (Place place : w.places) place.cutNow = new int[6];
        w.rain = 0;
        w.year++;
        return left;
    }

    private int take(int slot) {
        if (out(slot, 0, 1)) return INVALID;
        slots[slot] = w.copy();
        return w.year;
    }

    private int restore(int slot) {
        if (out(slot, 0, 1)) return INVALID;
        if (slots[slot] == null) return ILLEGAL;
        w = slots[slot].copy();
        return w.year;
    }

    private int undo() {
        if (history.isEmpty()) return ILLEGAL;
        Kept kept = history.removeLast();
        w = kept.world;
        slots[0] = kept.first;
        slots[1] = kept.second;
        return history.size();
    }

    private int append(int character) {
        if (out(character, 1, 255)) return INVALID;
        if (text.length() == 140) return FULL;
        text += (char) character;
        return text.length();
    }

    private int clear() {
        int old = text.length();
        text = "";
        return old;
    }

    private int run() {
        Kept kept = new Kept();
        kept.world = w.copy();
        kept.first = slots[0];
        kept.second = slots[1];
        int answer = runTokens();
        if (answer < 0) {
            w = kept.world;
        } else {
            text = "";
            keep(kept);
        }
        return answer;
    }

    private int runTokens() {
        Matcher tokens = Pattern.compile("[a-z]+|[0-9]+|[^ ]", Pattern.DOTALL).matcher(text);
        int done = 0;
        while (tokens.find()) {
            int word = tokens.start();
            String name = tokens.group();
            int wanted = wanted(name);
            if (wanted == 0) return -1000 - word;
            int[] n = new int[3];
            for (int i = 0; i < wanted; i++) {
                if (!tokens.find()) return -1000 - text.length();
                if (!tokens.group().matches("0|[1-9][0-9]{0,3}")) return -1000 - tokens.start();
                n[i] = Integer.parseInt(tokens.group());
            }
            if (!tokens.find()) return -1000 - text.length();
            if (!tokens.group().equals(";")) return -1000 - tokens.start();
            if (command(name, n) < 0) return -1000 - word;
            done++;
        }
        return done;
    }

    private static int wanted(String name) {
        switch (name) {
            case "house": case "turn": return 1;
            case "bank": case "right": case "cart": case "day": return 2;
            case "cut": return 3;
            default: return 0;
        }
    }

    private int command(String name, int[] n) {
        switch (name) {
            case "house": return come(n[0]);
            case "bank": return addBank(n[0], n[1]);
            case "right": return grant(n[0], n[1], 1);
            default: return act(name, n[0], n[1], n[2]);
        }
    }

    private int count(int what) {
        int taken = (slots[0] == null ? 0 : 1) + (slots[1] == null ? 0 : 1);
        int[] all = {w.year, w.houses.size(), w.places.size(), w.piles.size(), dryOnes(), w.rain, w.days,
            taken, history.size(), text.length()};
        return out(what, 0, 9) ? INVALID : all[what];
    }

    private int household(int house, int what) {
        if (noHouse(house) || out(what, 0, 5)) return INVALID;
        int rights = 0;
        int piles = 0;
        int turfs = 0;
        for (Place place : w.places) if (place.holders.contains(house)) rights++;
        for (Pile pile : w.piles) {
            if (pile.house == house) {
                piles++;
                turfs += pile.turfs;
            }
        }
        House h = w.houses.get(house);
        return new int[] {h.spades, h.dry, h.damp, rights, piles, turfs}[what];
    }

    private int bank(int bank, int what) {
        if (noBank(bank) || out(what, 0, 8)) return INVALID;
        Place p = w.places.get(bank);
        int sum = 0;
        for (int h : p.holders) sum += (int) Math.pow(2, h);
        int turfs = 0;
        for (Pile pile : w.piles) if (pile.place == bank) turfs += pile.turfs;
        return new int[] {p.allowance, p.strength, p.wear, bears(p), sum, p.cutEver, turfs, p.cartedEver, p.leftEver}[what];
    }

    private int right(int house, int bank, int what) {
        if (noHouse(house) || noBank(bank) || out(what, 0, 2)) return INVALID;
        Place p = w.places.get(bank);
        int share = shares(p)[house];
        return new int[] {share, p.cutNow[house], Math.max(share - p.cutNow[house], 0)}[what];
    }

    private int stack(int pile, int what) {
        if (noStack(pile) || out(what, 0, 6)) return INVALID;
        Pile p = w.piles.get(pile);
        return new int[] {p.house, p.place, p.turfs, p.wet, p.turns, weight(p), p.wet > 30000 ? 0 : 1}[what];
    }

    private int dryIn(int pile, int wind, int rain) {
        if (noStack(pile) || out(wind, 0, 9) || out(rain, 0, 9)) return INVALID;
        int wet = w.piles.get(pile).wet;
        int days = 0;
        while (wet > 30000) {
            wet = dried(wet, w.piles.get(pile).turns, wind, rain);
            days++;
            if (days > 200) return NONE;
        }
        return days;
    }

    private static int mostOnCart(int turfs, Pile pile, int bears) {
        for (int most = Math.min(turfs, 1000); most > 0; most--) {
            if (most * weight(pile) <= bears * 1000) return most;
        }
        return NONE;
    }

    /** Carts the stack in a copy of the world, by the calls that a user would make. */
    private int carts(int pile) {
        if (noStack(pile)) return INVALID;
        World real = w;
        w = w.copy();
        Pile stack = w.piles.get(pile);
        int number = 0;
        while (stack.turfs > 0) {
            int most = mostOnCart(stack.turfs, stack, bears(w.places.get(stack.place)));
            if (most == NONE) {
                number = NONE;
                break;
            }
            if (cart(pile, most) < 0) throw new IllegalStateException("the model's own cart failed");
            number++;
        }
        w = real;
        return number;
    }

    private int worth(int house, int price) {
        if (noHouse(house) || out(price, 0, 2000000000)) return INVALID;
        long worth = (long) w.houses.get(house).dry * price;
        return worth > 2147483647L ? NONE : (int) worth;
    }

    private int nextToCut(int bank) {
        if (noBank(bank)) return INVALID;
        int best = NONE;
        for (int h = w.houses.size() - 1; h >= 0; h--) {
            int may = right(h, bank, 2);
            if (may > 0 && (best == NONE || may >= right(best, bank, 2))) best = h;
        }
        return best;
    }
}
