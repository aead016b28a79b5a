/**
 * Peat banks of a parish: shares of turf, stacks that dry, roads that wear, accounts,
 * snapshots, a history of states, and programs that are run from a text.
 */
public final class PeatShares {
    public static final int INVALID_ARGUMENT = -1;
    public static final int ILLEGAL_STATE = -2;
    public static final int CAPACITY_EXCEEDED = -3;
    public static final int NONE = -9;

    private static final int MOST_HOUSEHOLDS = 6;
    private static final int MOST_BANKS = 4;
    private static final int MOST_STACKS = 12;
    private static final int MOST_SPADES = 9;
    private static final int MOST_ALLOWANCE = 5000;
    private static final int LEAST_STRENGTH = 100;
    private static final int MOST_STRENGTH = 3000;
    private static final int MOST_TURFS_AT_ONCE = 1000;
    private static final int MOST_TURNS = 3;
    private static final int MOST_WEATHER = 9;
    private static final int MOST_PRICE = 2000000000;
    private static final int MOST_WORTH = 2147483647;
    private static final int LAST_YEAR = 999;
    private static final int FORECAST_DAYS = 200;
    private static final int WET_THROUGH = 100000;
    private static final int DRY = 30000;
    private static final int SLOTS = 2;
    private static final int MOST_STATES = 5;
    private static final int MOST_CHARACTERS = 140;
    private static final int GREATEST_CHARACTER = 255;
    private static final int FAILED_AT_START = -1000;

    private State now = new State();
    // A spare row: the state before a call, until it is known whether the call succeeds.
    private State before = new State();
    private final State[] history = new State[MOST_STATES];
    private int states = 0;
    private final Program program = new Program();

    public PeatShares() {
        for (int i = 0; i < MOST_STATES; i++) {
            history[i] = new State();
        }
    }

    // ---- households, banks and rights

    public int come(int spades) {
        before.copyFrom(now);
        return recorded(now.parish.addHousehold(spades));
    }

    public int setSpades(int household, int spades) {
        before.copyFrom(now);
        return recorded(now.parish.changeSpades(household, spades));
    }

    public int addBank(int allowance, int strength) {
        before.copyFrom(now);
        return recorded(now.parish.openBank(allowance, strength));
    }

    public int setAllowance(int bank, int allowance) {
        before.copyFrom(now);
        return recorded(now.parish.changeAllowance(bank, allowance));
    }

    public int grant(int household, int bank, int is) {
        before.copyFrom(now);
        return recorded(now.parish.changeRight(household, bank, is));
    }

    // ---- turf

    public int cut(int household, int bank, int turfs) {
        before.copyFrom(now);
        return recorded(now.parish.cutTurfs(household, bank, turfs));
    }

    public int turn(int stack) {
        before.copyFrom(now);
        return recorded(now.parish.turnStack(stack));
    }

    public int join(int one, int other) {
        before.copyFrom(now);
        return recorded(now.parish.joinStacks(one, other));
    }

    public int cart(int stack, int turfs) {
        before.copyFrom(now);
        return recorded(now.parish.cartTurfs(stack, turfs));
    }

    public int repair(int bank) {
        before.copyFrom(now);
        return recorded(now.parish.repairRoad(bank));
    }

    public int day(int wind, int rain) {
        before.copyFrom(now);
        return recorded(now.parish.passDay(wind, rain));
    }

    public int endYear() {
        before.copyFrom(now);
        return recorded(now.parish.closeYear());
    }

    // ---- snapshots

    public int take(int slot) {
        before.copyFrom(now);
        return recorded(now.takeSnapshot(slot));
    }

    public int restore(int slot) {
        before.copyFrom(now);
        return recorded(now.restoreSnapshot(slot));
    }

    public int undo() {
        if (states == 0) {
            return ILLEGAL_STATE;
        }
        states--;
        State latest = history[states];
        history[states] = now;
        now = latest;
        return states;
    }

    // ---- programs

    public int append(int character) {
        return program.addCharacter(character);
    }

    public int clearText() {
        return program.clearCharacters();
    }

    public int run() {
        before.copyFrom(now);
        int answer = program.runOn(now.parish);
        if (answer < 0) {
            now.copyFrom(before);
            return answer;
        }
        program.clearCharacters();
        return recorded(answer);
    }

    // ---- looking

    public int count(int what) {
        switch (what) {
            case 0: return now.parish.year;
            case 1: return now.parish.households;
            case 2: return now.parish.banks;
            case 3: return now.parish.stacks;
            case 4: return now.parish.dryStacks();
            case 5: return now.parish.rain;
            case 6: return now.parish.days;
            case 7: return now.snapshots();
            case 8: return states;
            case 9: return program.length;
            default: return INVALID_ARGUMENT;
        }
    }

    public int household(int household, int what) {
        return now.parish.householdProperty(household, what);
    }

    public int bank(int bank, int what) {
        return now.parish.bankProperty(bank, what);
    }

    public int right(int household, int bank, int what) {
        return now.parish.rightPart(household, bank, what);
    }

    public int stack(int stack, int what) {
        return now.parish.stackProperty(stack, what);
    }

    // ---- forecasts, which change nothing

    public int dryIn(int stack, int wind, int rain) {
        return now.parish.daysUntilDry(stack, wind, rain);
    }

    public int cartLoad(int stack) {
        return now.parish.greatestCartOf(stack);
    }

    public int carts(int stack) {
        return now.parish.cartsNeeded(stack);
    }

    public int worth(int household, int price) {
        return now.parish.worthOfShed(household, price);
    }

    public int nextToCut(int bank) {
        return now.parish.mostToCut(bank);
    }

    /** Puts the state before an action into the history if the action succeeded. */
    private int recorded(int answer) {
        if (answer < 0) {
            return answer;
        }
        if (states == MOST_STATES) {
            dropOldestState();
        }
        // The rows change places, so that no call makes a new one.
        State unused = history[states];
        history[states] = before;
        before = unused;
        states++;
        return answer;
    }

    private void dropOldestState() {
        State oldest = history[0];
        for (int i = 1; i < MOST_STATES; i++) {
            history[i - 1] = history[i];
        }
        states = MOST_STATES - 1;
        history[states] = oldest;
    }

    private static boolean isWithin(int number, int least, int most) {
        return number >= least && number <= most;
    }

    /** All that undo() brings back: the parish and the snapshots of it. */
    private static final class State {
        final Parish parish = new Parish();
        final Parish[] slots = new Parish[SLOTS];
        final boolean[] taken = new boolean[SLOTS];

        State() {
            for (int i = 0; i < SLOTS; i++) {
                slots[i] = new Parish();
            }
        }

        void copyFrom(State other) {
            parish.copyFrom(other.parish);
            for (int i = 0; i < SLOTS; i++) {
                taken[i] = other.taken[i];
                // What stands in an empty slot is never read.
                if (taken[i]) {
                    slots[i].copyFrom(other.slots[i]);
                }
            }
        }

        int snapshots() {
            int number = 0;
            for (int i = 0; i < SLOTS; i++) {
                if (taken[i]) {
                    number++;
                }
            }
            return number;
        }

        int takeSnapshot(int slot) {
            if (!isWithin(slot, 0, SLOTS - 1)) {
                return INVALID_ARGUMENT;
            }
            slots[slot].copyFrom(parish);
            taken[slot] = true;
            return parish.year;
        }

        int restoreSnapshot(int slot) {
            if (!isWithin(slot, 0, SLOTS - 1)) {
                return INVALID_ARGUMENT;
            }
            if (!taken[slot]) {
                return ILLEGAL_STATE;
            }
            parish.copyFrom(slots[slot]);
            return parish.year;
        }
    }

    private static final class Household {
        int spades = 0;
        int dryTurfs = 0;
        int dampTurfs = 0;

        void copyFrom(Household other) {
            spades = other.spades;
            dryTurfs = other.dryTurfs;
            dampTurfs = other.dampTurfs;
        }
    }

    private static final class Bank {
        int allowance = 0;
        int strength = 0;
        int wear = 0;
        int turfsCut = 0;
        int turfsCarted = 0;
        int turfsLeft = 0;
        final boolean[] granted = new boolean[MOST_HOUSEHOLDS];
        final int[] cutThisYear = new int[MOST_HOUSEHOLDS];

        void copyFrom(Bank other) {
            allowance = other.allowance;
            strength = other.strength;
            wear = other.wear;
            turfsCut = other.turfsCut;
            turfsCarted = other.turfsCarted;
            turfsLeft = other.turfsLeft;
            for (int i = 0; i < MOST_HOUSEHOLDS; i++) {
                granted[i] = other.granted[i];
                cutThisYear[i] = other.cutThisYear[i];
            }
        }

        /** What the road bears with this wear, after a day with this rain. */
        int bearing(int someWear, int rain) {
            return Math.max(0, strength - 40 * rain - someWear);
        }

        int holders() {
            int number = 0;
            for (int i = 0; i < MOST_HOUSEHOLDS; i++) {
                if (granted[i]) {
                    number++;
                }
            }
            return number;
        }

        int holdersAsBits() {
            int bits = 0;
            for (int i = 0; i < MOST_HOUSEHOLDS; i++) {
                if (granted[i]) {
                    bits |= 1 << i;
                }
            }
            return bits;
        }

        void forgetYear() {
            for (int i = 0; i < MOST_HOUSEHOLDS; i++) {
                cutThisYear[i] = 0;
            }
        }

        static int wearBy(int load) {
            return (load + 49) / 50;
        }
    }

    private static final class TurfStack {
        int household = 0;
        int bank = 0;
        int turfs = 0;
        int wetness = 0;
        int turns = 0;

        void copyFrom(TurfStack other) {
            household = other.household;
            bank = other.bank;
            turfs = other.turfs;
            wetness = other.wetness;
            turns = other.turns;
        }

        boolean isDry() {
            return wetness <= DRY;
        }

        int turfWeight() {
            return 1000 + wetness / 100;
        }

        /** The load of a cart with so many turfs, which are at most 1000. */
        int loadOf(int number) {
            return (number * turfWeight() + 999) / 1000;
        }

        /** The most of so many turfs that one cart can take on a road that bears so much. */
        int greatestCart(int number, int bearing) {
            int weight = turfWeight();
            if (weight <= 0) {
                return 0;
            }
            int carried = bearing * 1000 / weight;
            return Math.min(carried, Math.min(number, MOST_TURFS_AT_ONCE));
        }

        int wetnessAfterDay(int wetBefore, int wind, int rain) {
            int drying = wind * (turns + 1);
            int dried = (int) (wetBefore * (1 - drying / 64.0));
            return Math.min(WET_THROUGH, dried + 1500 * rain);
        }

        /** Takes the turfs of another stack, which are as wet as they are there. */
        void takeAllOf(TurfStack other) {
            int sum = turfs + other.turfs;
            if (sum > 0) {
                long wet = (long) turfs * wetness + (long) other.turfs * other.wetness;
                wetness = (int) ((wet + sum - 1) / sum);
            }
            turfs = sum;
            turns = Math.min(turns, other.turns);
        }
    }

    /** What a snapshot keeps, and what is done with it; a call that answers an error changes nothing. */
    private static final class Parish {
        int year = 0;
        int days = 0;
        int rain = 0;
        int households = 0;
        int banks = 0;
        int stacks = 0;
        // Rows stand for the greatest numbers from the start; only the first so many are in use.
        final Household[] householdRows = new Household[MOST_HOUSEHOLDS];
        final Bank[] bankRows = new Bank[MOST_BANKS];
        final TurfStack[] stackRows = new TurfStack[MOST_STACKS];

        Parish() {
            for (int i = 0; i < MOST_HOUSEHOLDS; i++) {
                householdRows[i] = new Household();
            }
            for (int i = 0; i < MOST_BANKS; i++) {
                bankRows[i] = new Bank();
            }
            for (int i = 0; i < MOST_STACKS; i++) {
                stackRows[i] = new TurfStack();
            }
        }

        /** Copies the rows that are not in use too, so that these stay as new ones are. */
        void copyFrom(Parish other) {
            year = other.year;
            days = other.days;
            rain = other.rain;
            households = other.households;
            banks = other.banks;
            stacks = other.stacks;
            for (int i = 0; i < MOST_HOUSEHOLDS; i++) {
                householdRows[i].copyFrom(other.householdRows[i]);
            }
            for (int i = 0; i < MOST_BANKS; i++) {
                bankRows[i].copyFrom(other.bankRows[i]);
            }
            for (int i = 0; i < MOST_STACKS; i++) {
                stackRows[i].copyFrom(other.stackRows[i]);
            }
        }

        boolean hasHousehold(int household) {
            return isWithin(household, 0, households - 1);
        }

        boolean hasBank(int bank) {
            return isWithin(bank, 0, banks - 1);
        }

        boolean hasStack(int stack) {
            return isWithin(stack, 0, stacks - 1);
        }

        // ---- households, banks and rights

        int addHousehold(int spades) {
            if (!isWithin(spades, 1, MOST_SPADES)) {
                return INVALID_ARGUMENT;
            }
            if (households >= MOST_HOUSEHOLDS) {
                return CAPACITY_EXCEEDED;
            }
            householdRows[households].spades = spades;
            households++;
            return households - 1;
        }

        int changeSpades(int household, int spades) {
            if (!hasHousehold(household) || !isWithin(spades, 1, MOST_SPADES)) {
                return INVALID_ARGUMENT;
            }
            int previous = householdRows[household].spades;
            householdRows[household].spades = spades;
            return previous;
        }

        int openBank(int allowance, int strength) {
            if (!isWithin(allowance, 0, MOST_ALLOWANCE) || !isWithin(strength, LEAST_STRENGTH, MOST_STRENGTH)) {
                return INVALID_ARGUMENT;
            }
            if (banks >= MOST_BANKS) {
                return CAPACITY_EXCEEDED;
            }
            bankRows[banks].allowance = allowance;
            bankRows[banks].strength = strength;
            banks++;
            return banks - 1;
        }

        int changeAllowance(int bank, int allowance) {
            if (!hasBank(bank) || !isWithin(allowance, 0, MOST_ALLOWANCE)) {
                return INVALID_ARGUMENT;
            }
            int previous = bankRows[bank].allowance;
            bankRows[bank].allowance = allowance;
            return previous;
        }

        int changeRight(int household, int bank, int is) {
            if (!hasHousehold(household) || !hasBank(bank) || !isWithin(is, 0, 1)) {
                return INVALID_ARGUMENT;
            }
            bankRows[bank].granted[household] = is == 1;
            return bankRows[bank].holders();
        }

        /** The spades of all that have the right, together. */
        int spadesAt(Bank bank) {
            int sum = 0;
            for (int i = 0; i < households; i++) {
                if (bank.granted[i]) {
                    sum += householdRows[i].spades;
                }
            }
            return sum;
        }

        int shareOf(int household, Bank bank) {
            int allSpades = spadesAt(bank);
            if (!bank.granted[household] || allSpades <= 0) {
                return 0;
            }
            int leftOver = bank.allowance;
            int holdersBefore = 0;
            for (int i = 0; i < households; i++) {
                if (bank.granted[i]) {
                    leftOver -= bank.allowance * householdRows[i].spades / allSpades;
                    if (i < household) {
                        holdersBefore++;
                    }
                }
            }
            int share = bank.allowance * householdRows[household].spades / allSpades;
            return holdersBefore < leftOver ? share + 1 : share;
        }

        int stillToCut(int household, Bank bank) {
            return Math.max(0, shareOf(household, bank) - bank.cutThisYear[household]);
        }

        int rightPart(int household, int bank, int what) {
            if (!hasHousehold(household) || !hasBank(bank)) {
                return INVALID_ARGUMENT;
            }
            switch (what) {
                case 0: return shareOf(household, bankRows[bank]);
                case 1: return bankRows[bank].cutThisYear[household];
                case 2: return stillToCut(household, bankRows[bank]);
                default: return INVALID_ARGUMENT;
            }
        }

        int mostToCut(int bank) {
            if (!hasBank(bank)) {
                return INVALID_ARGUMENT;
            }
            int found = NONE;
            int most = 0;
            for (int i = 0; i < households; i++) {
                int turfs = stillToCut(i, bankRows[bank]);
                if (turfs > most) {
                    found = i;
                    most = turfs;
                }
            }
            return found;
        }

        // ---- stacks

        int cutTurfs(int household, int bank, int turfs) {
            if (!hasHousehold(household) || !hasBank(bank) || !isWithin(turfs, 1, MOST_TURFS_AT_ONCE)) {
                return INVALID_ARGUMENT;
            }
            Bank place = bankRows[bank];
            if (place.cutThisYear[household] + turfs > shareOf(household, place)) {
                return ILLEGAL_STATE;
            }
            if (stacks >= MOST_STACKS) {
                return CAPACITY_EXCEEDED;
            }
            place.cutThisYear[household] += turfs;
            place.turfsCut += turfs;
            TurfStack made = stackRows[stacks];
            made.household = household;
            made.bank = bank;
            made.turfs = turfs;
            made.wetness = WET_THROUGH;
            made.turns = 0;
            stacks++;
            return stacks - 1;
        }

        int turnStack(int stack) {
            if (!hasStack(stack)) {
                return INVALID_ARGUMENT;
            }
            TurfStack turned = stackRows[stack];
            if (turned.turns >= MOST_TURNS) {
                return CAPACITY_EXCEEDED;
            }
            turned.turns++;
            return turned.turns;
        }

        int joinStacks(int one, int other) {
            if (!hasStack(one) || !hasStack(other) || one == other) {
                return INVALID_ARGUMENT;
            }
            TurfStack source = stackRows[one];
            TurfStack target = stackRows[other];
            if (source.household != target.household || source.bank != target.bank) {
                return ILLEGAL_STATE;
            }
            target.takeAllOf(source);
            removeStack(one);
            return target.turfs;
        }

        /** Puts the row behind those in use, where the next new stack finds one. */
        void removeStack(int stack) {
            TurfStack unused = stackRows[stack];
            for (int i = stack + 1; i < stacks; i++) {
                stackRows[i - 1] = stackRows[i];
            }
            stacks--;
            stackRows[stacks] = unused;
        }

        int dryStacks() {
            int number = 0;
            for (int i = 0; i < stacks; i++) {
                if (stackRows[i].isDry()) {
                    number++;
                }
            }
            return number;
        }

        int stackProperty(int stack, int what) {
            if (!hasStack(stack)) {
                return INVALID_ARGUMENT;
            }
            TurfStack row = stackRows[stack];
            switch (what) {
                case 0: return row.household;
                case 1: return row.bank;
                case 2: return row.turfs;
                case 3: return row.wetness;
                case 4: return row.turns;
                case 5: return row.turfWeight();
                case 6: return row.isDry() ? 1 : 0;
                default: return INVALID_ARGUMENT;
            }
        }

        // ---- days and years

        int passDay(int wind, int rainOfDay) {
            if (!isWithin(wind, 0, MOST_WEATHER) || !isWithin(rainOfDay, 0, MOST_WEATHER)) {
                return INVALID_ARGUMENT;
            }
            for (int i = 0; i < stacks; i++) {
                TurfStack row = stackRows[i];
                row.wetness = row.wetnessAfterDay(row.wetness, wind, rainOfDay);
            }
            rain = rainOfDay;
            days++;
            return dryStacks();
        }

        int daysUntilDry(int stack, int wind, int rainOfDays) {
            if (!hasStack(stack) || !isWithin(wind, 0, MOST_WEATHER) || !isWithin(rainOfDays, 0, MOST_WEATHER)) {
                return INVALID_ARGUMENT;
            }
            TurfStack row = stackRows[stack];
            int wetness = row.wetness;
            for (int passed = 0; passed <= FORECAST_DAYS; passed++) {
                if (wetness <= DRY) {
                    return passed;
                }
                wetness = row.wetnessAfterDay(wetness, wind, rainOfDays);
            }
            return NONE;
        }

        int closeYear() {
            if (year >= LAST_YEAR) {
                return ILLEGAL_STATE;
            }
            int left = 0;
            for (int i = 0; i < stacks; i++) {
                bankRows[stackRows[i].bank].turfsLeft += stackRows[i].turfs;
                left += stackRows[i].turfs;
            }
            stacks = 0;
            for (int i = 0; i < banks; i++) {
                bankRows[i].forgetYear();
            }
            rain = 0;
            year++;
            return left;
        }

        // ---- roads and carts

        int repairRoad(int bank) {
            if (!hasBank(bank)) {
                return INVALID_ARGUMENT;
            }
            int previous = bankRows[bank].wear;
            bankRows[bank].wear = 0;
            return previous;
        }

        int bearingToday(Bank bank) {
            return bank.bearing(bank.wear, rain);
        }

        int cartTurfs(int stack, int turfs) {
            if (!hasStack(stack) || !isWithin(turfs, 1, MOST_TURFS_AT_ONCE)) {
                return INVALID_ARGUMENT;
            }
            TurfStack row = stackRows[stack];
            Bank place = bankRows[row.bank];
            int load = row.loadOf(turfs);
            if (row.turfs < turfs || load > bearingToday(place)) {
                return ILLEGAL_STATE;
            }
            Household owner = householdRows[row.household];
            if (row.isDry()) {
                owner.dryTurfs += turfs;
            } else {
                owner.dampTurfs += turfs;
            }
            place.turfsCarted += turfs;
            place.wear += Bank.wearBy(load);
            row.turfs -= turfs;
            if (row.turfs == 0) {
                removeStack(stack);
            }
            return load;
        }

        int greatestCartOf(int stack) {
            if (!hasStack(stack)) {
                return INVALID_ARGUMENT;
            }
            TurfStack row = stackRows[stack];
            int turfs = row.greatestCart(row.turfs, bearingToday(bankRows[row.bank]));
            return turfs > 0 ? turfs : NONE;
        }

        int cartsNeeded(int stack) {
            if (!hasStack(stack)) {
                return INVALID_ARGUMENT;
            }
            TurfStack row = stackRows[stack];
            Bank place = bankRows[row.bank];
            int wear = place.wear;
            int turfs = row.turfs;
            // Each cart takes one turf at least.
            for (int number = 1; number <= row.turfs; number++) {
                int carted = row.greatestCart(turfs, place.bearing(wear, rain));
                if (carted <= 0) {
                    return NONE;
                }
                turfs -= carted;
                if (turfs <= 0) {
                    return number;
                }
                wear += Bank.wearBy(row.loadOf(carted));
            }
            return NONE;
        }

        // ---- accounts

        int householdProperty(int household, int what) {
            if (!hasHousehold(household)) {
                return INVALID_ARGUMENT;
            }
            switch (what) {
                case 0: return householdRows[household].spades;
                case 1: return householdRows[household].dryTurfs;
                case 2: return householdRows[household].dampTurfs;
                case 3: return rightsOf(household);
                case 4: return stacksOf(household);
                case 5: return turfsInStacksOf(household);
                default: return INVALID_ARGUMENT;
            }
        }

        int rightsOf(int household) {
            int number = 0;
            for (int i = 0; i < banks; i++) {
                if (bankRows[i].granted[household]) {
                    number++;
                }
            }
            return number;
        }

        int stacksOf(int household) {
            int number = 0;
            for (int i = 0; i < stacks; i++) {
                if (stackRows[i].household == household) {
                    number++;
                }
            }
            return number;
        }

        int turfsInStacksOf(int household) {
            int turfs = 0;
            for (int i = 0; i < stacks; i++) {
                if (stackRows[i].household == household) {
                    turfs += stackRows[i].turfs;
                }
            }
            return turfs;
        }

        int bankProperty(int bank, int what) {
            if (!hasBank(bank)) {
                return INVALID_ARGUMENT;
            }
            Bank row = bankRows[bank];
            switch (what) {
                case 0: return row.allowance;
                case 1: return row.strength;
                case 2: return row.wear;
                case 3: return bearingToday(row);
                case 4: return row.holdersAsBits();
                case 5: return row.turfsCut;
                case 6: return turfsInStacksAt(bank);
                case 7: return row.turfsCarted;
                case 8: return row.turfsLeft;
                default: return INVALID_ARGUMENT;
            }
        }

        int turfsInStacksAt(int bank) {
            int turfs = 0;
            for (int i = 0; i < stacks; i++) {
                if (stackRows[i].bank == bank) {
                    turfs += stackRows[i].turfs;
                }
            }
            return turfs;
        }

        int worthOfShed(int household, int price) {
            if (!hasHousehold(household) || !isWithin(price, 0, MOST_PRICE)) {
                return INVALID_ARGUMENT;
            }
            long sum = (long) householdRows[household].dryTurfs * price;
            return sum > MOST_WORTH ? NONE : (int) sum;
        }
    }

    /** The text, and what is read of it while it is run. */
    private static final class Program {
        private static final int UNKNOWN = 0;
        private static final int HOUSE = 1;
        private static final int BANK = 2;
        private static final int RIGHT = 3;
        private static final int CUT = 4;
        private static final int TURN = 5;
        private static final int CART = 6;
        private static final int DAY = 7;

        private static final int LETTER = 1;
        private static final int DIGIT = 2;
        private static final int OTHER = 3;

        private static final int MOST_DIGITS = 4;
        private static final int MOST_NUMBERS = 3;
        private static final int NO_FAILURE = -1;

        final char[] text = new char[MOST_CHARACTERS];
        int length = 0;
        // The token that was read last stands from start to before end; at the text's end it is empty.
        int start = 0;
        int end = 0;
        final int[] numbers = new int[MOST_NUMBERS];

        int addCharacter(int character) {
            if (!isWithin(character, 1, GREATEST_CHARACTER)) {
                return INVALID_ARGUMENT;
            }
            if (length >= MOST_CHARACTERS) {
                return CAPACITY_EXCEEDED;
            }
            text[length] = (char) character;
            length++;
            return length;
        }

        int clearCharacters() {
            int previous = length;
            length = 0;
            return previous;
        }

        /** Answers the number of commands, or a number that tells the place of a failure. */
        int runOn(Parish parish) {
            end = 0;
            // A command has more than one character.
            for (int commands = 0; commands < MOST_CHARACTERS; commands++) {
                readToken();
                if (start >= length) {
                    return commands;
                }
                int failure = runCommand(parish);
                if (failure != NO_FAILURE) {
                    return FAILED_AT_START - failure;
                }
            }
            return MOST_CHARACTERS;
        }

        /** Runs the command whose word has just been read; answers the place of a failure, or NO_FAILURE. */
        int runCommand(Parish parish) {
            int wordStart = start;
            int command = commandOfToken();
            if (command == UNKNOWN) {
                return wordStart;
            }
            int wanted = numbersOf(command);
            for (int i = 0; i < wanted; i++) {
                readToken();
                if (!isNumber()) {
                    return start;
                }
                numbers[i] = valueOfToken();
            }
            readToken();
            if (!isToken(";")) {
                return start;
            }
            return perform(command, parish) < 0 ? wordStart : NO_FAILURE;
        }

        void readToken() {
            start = end;
            while (start < length && text[start] == ' ') {
                start++;
            }
            end = start;
            if (end >= length) {
                return;
            }
            int kind = kindOf(text[start]);
            end++;
            while (kind != OTHER && end < length && kindOf(text[end]) == kind) {
                end++;
            }
        }

        static int kindOf(char character) {
            if (character >= 'a' && character <= 'z') {
                return LETTER;
            }
            return character >= '0' && character <= '9' ? DIGIT : OTHER;
        }

        boolean isToken(String word) {
            if (end - start != word.length()) {
                return false;
            }
            for (int i = 0; i < word.length(); i++) {
                if (text[start + i] != word.charAt(i)) {
                    return false;
                }
            }
            return true;
        }

        boolean isNumber() {
            int digits = end - start;
            if (!isWithin(digits, 1, MOST_DIGITS) || kindOf(text[start]) != DIGIT) {
                return false;
            }
            return digits == 1 || text[start] != '0';
        }

        int valueOfToken() {
            int value = 0;
            for (int i = start; i < end; i++) {
                value = value * 10 + (text[i] - '0');
            }
            return value;
        }

        int commandOfToken() {
            if (isToken("house")) {
                return HOUSE;
            }
            if (isToken("bank")) {
                return BANK;
            }
            if (isToken("right")) {
                return RIGHT;
            }
            if (isToken("cut")) {
                return CUT;
            }
            if (isToken("turn")) {
                return TURN;
            }
            if (isToken("cart")) {
                return CART;
            }
            return isToken("day") ? DAY : UNKNOWN;
        }

        static int numbersOf(int command) {
            switch (command) {
                case CUT: return 3;
                case HOUSE:
                case TURN: return 1;
                default: return 2;
            }
        }

        int perform(int command, Parish parish) {
            switch (command) {
                case HOUSE: return parish.addHousehold(numbers[0]);
                case BANK: return parish.openBank(numbers[0], numbers[1]);
                case RIGHT: return parish.changeRight(numbers[0], numbers[1], 1);
                case CUT: return parish.cutTurfs(numbers[0], numbers[1], numbers[2]);
                case TURN: return parish.turnStack(numbers[0]);
                case CART: return parish.cartTurfs(numbers[0], numbers[1]);
                case DAY: return parish.passDay(numbers[0], numbers[1]);
                default: return INVALID_ARGUMENT;
            }
        }
    }
}
