import java.util.Arrays;

public final class KinderTowns {
    public static final int INVALID_ARGUMENT = -1;
    public static final int NOT_POSSIBLE = -2;
    public static final int LIMIT_REACHED = -3;
    public static final int NOT_FOUND = -4;

    private static final int MOST_TOWNS = 5;
    private static final int MOST_EVENTS = 60;
    private static final int MOST_PIECES = 99;
    private static final int MOST_STATES = 4;
    private static final int MOST_SIGNS = 80;
    private static final int MOST_NUMBERS = 4;
    private static final int GOODS = 6;
    private static final int PERSONS = 10;

    private static final int DELIVERY = 0;
    private static final int ORDER = 1;
    private static final int CANCELLATION = 2;

    private static final int FEWEST_PIECES = 1;
    private static final int FEWEST_GIVEN = 2;
    private static final int RULES = 3;

    private static final int NOT_OF_THE_FORM = 1;
    private static final int OUT_OF_RANGE = 2;
    private static final int NOT_POSSIBLE_OTHERWISE = 3;

    // No clock is above the number of events, so a clock and a town together stay below this.
    private static final int MOMENTS = (MOST_EVENTS + 1) * MOST_TOWNS;

    private Country now;
    // What was before a change, until it goes to the history, or a country to try things in.
    private Country spare;
    private final Country[] history = new Country[MOST_STATES];
    private int states;
    private final Script script = new Script();

    public KinderTowns() {
        now = new Country();
        spare = new Country();
        for (int state = 0; state < MOST_STATES; state++) {
            history[state] = new Country();
        }
    }

    // ---- towns, events

    public int town() {
        spare.copyFrom(now);
        return recorded(now.addTown());
    }

    public int deliver(int town, int good, int pieces) {
        spare.copyFrom(now);
        return recorded(now.makeDelivery(town, good, pieces));
    }

    public int order(int town, int person, int good, int pieces) {
        spare.copyFrom(now);
        return recorded(now.makeOrder(town, person, good, pieces));
    }

    public int cancel(int town, int event) {
        spare.copyFrom(now);
        return recorded(now.makeCancellation(town, event));
    }

    public int meet(int one, int other) {
        spare.copyFrom(now);
        return recorded(now.letMeet(one, other));
    }

    public int hear(int one, int other) {
        spare.copyFrom(now);
        return recorded(now.letHear(one, other));
    }

    public int rule(int rule) {
        spare.copyFrom(now);
        return recorded(now.setRule(rule));
    }

    // ---- what there is

    public int eventOf(int event, int what) {
        Events events = now.events;
        if (!isBelow(event, events.count) || !isBelow(what, 9)) {
            return INVALID_ARGUMENT;
        }
        switch (what) {
            case 0: return events.kinds[event];
            case 1: return events.towns[event];
            case 2: return events.clocks[event];
            case 3: return events.goods[event];
            case 4: return events.pieces[event];
            case 5: return events.persons[event];
            case 6: return events.orders[event];
            case 7: return now.townsWith(now.known, event);
            default: return now.townsWith(now.apologised, event);
        }
    }

    public int thinks(int town, int event) {
        if (!now.isTown(town) || !isBelow(event, now.events.count)) {
            return INVALID_ARGUMENT;
        }
        if (now.events.kinds[event] != ORDER) {
            return NOT_POSSIBLE;
        }
        if (!has(now.known[town], event)) {
            return NOT_FOUND;
        }
        if (has(now.accepted[town], event)) {
            return 0;
        }
        return has(now.refused[town], event) ? 1 : 2;
    }

    public int townOf(int town, int what) {
        if (!now.isTown(town) || !isBelow(what, 8)) {
            return INVALID_ARGUMENT;
        }
        switch (what) {
            case 0: return now.clocks[town];
            case 1: return Long.bitCount(now.known[town]);
            case 2: return Long.bitCount(now.accepted[town]);
            case 3: return Long.bitCount(now.refused[town]);
            case 4: return Long.bitCount(now.events.cancelledIn(now.known[town]));
            case 5: return Long.bitCount(now.apologised[town]);
            case 6: return Long.bitCount(now.events.having(now.events.towns, town));
            default: return now.townsThatKnow(now.known[town]);
        }
    }

    public int goodOf(int town, int good, int what) {
        if (!now.isTown(town) || !isBelow(good, GOODS) || !isBelow(what, 4)) {
            return INVALID_ARGUMENT;
        }
        Events events = now.events;
        long ofGood = events.having(events.goods, good);
        int stock = events.piecesOf(now.known[town] & ofGood & events.having(events.kinds, DELIVERY));
        int accepted = events.piecesOf(now.accepted[town] & ofGood);
        switch (what) {
            case 0: return stock;
            case 1: return accepted;
            case 2: return stock - accepted;
            default: return events.piecesOf(now.refused[town] & ofGood);
        }
    }

    public int lookedAt(int town, int good, int index) {
        if (!now.isTown(town) || !isBelow(good, GOODS) || index < 0) {
            return INVALID_ARGUMENT;
        }
        Looking looking = now.looking;
        looking.lookAtGood(now.events, now.events.standingIn(now.known[town]), now.rule, good);
        return isBelow(index, looking.length) ? looking.row[index] : NOT_FOUND;
    }

    public int personOf(int town, int person, int what) {
        if (!now.isTown(town) || !isBelow(person, PERSONS) || !isBelow(what, 4)) {
            return INVALID_ARGUMENT;
        }
        Events events = now.events;
        long orders = events.having(events.persons, person) & events.having(events.kinds, ORDER);
        switch (what) {
            case 0: return Long.bitCount(now.known[town] & orders);
            case 1: return Long.bitCount(now.accepted[town] & orders);
            case 2: return events.piecesOf(now.accepted[town] & orders);
            default: return now.apologiesFor(orders);
        }
    }

    public int unheard(int one, int other) {
        if (!now.isTown(one) || !now.isTown(other)) {
            return INVALID_ARGUMENT;
        }
        return now.newsFor(other, now.known[one]);
    }

    public int count(int what) {
        Events events = now.events;
        switch (what) {
            case 0: return now.towns;
            case 1: return events.count;
            case 2: return Long.bitCount(events.having(events.kinds, DELIVERY));
            case 3: return Long.bitCount(events.having(events.kinds, ORDER));
            case 4: return Long.bitCount(events.having(events.kinds, CANCELLATION));
            case 5: return now.rule;
            case 6: return now.apologiesFor(events.all());
            case 7: return Long.bitCount(now.knownByAll());
            case 8: return now.allKnowTheSame() ? 1 : 0;
            case 9: return states;
            case 10: return script.length;
            default: return INVALID_ARGUMENT;
        }
    }

    // ---- what would be

    public int would(int one, int other, int what) {
        spare.copyFrom(now);
        int more = spare.letMeet(one, other);
        if (more < 0 || !isBelow(what, 3)) {
            return INVALID_ARGUMENT;
        }
        spare.thinkAnew();
        switch (what) {
            case 0: return newApologies();
            case 1: return more;
            default: return now.events.goodsOf(otherThoughts(one) | otherThoughts(other));
        }
    }

    public int wouldRule(int rule) {
        spare.copyFrom(now);
        if (spare.setRule(rule) < 0) {
            return INVALID_ARGUMENT;
        }
        spare.thinkAnew();
        return newApologies();
    }

    public int kindest(int what) {
        if (!isBelow(what, 2)) {
            return INVALID_ARGUMENT;
        }
        Looking looking = now.looking;
        int kindest = 0;
        int most = -1;
        for (int rule = 0; rule < RULES; rule++) {
            looking.lookAtAll(now.events, now.events.all(), rule);
            int persons = now.events.personsIn(looking.accepted);
            if (persons > most) {
                most = persons;
                kindest = rule;
            }
        }
        return what == 0 ? kindest : most;
    }

    public int rounds() {
        spare.copyFrom(now);
        int rounds = 0;
        while (rounds < MOST_TOWNS && !spare.allKnowTheSame()) {
            spare.meetInTurn();
            rounds++;
        }
        return rounds;
    }

    public int undo() {
        if (!isBelow(states - 1, MOST_STATES)) {
            return NOT_POSSIBLE;
        }
        states--;
        Country latest = history[states];
        history[states] = now;
        now = latest;
        return states;
    }

    // ---- texts

    public int type(int character) {
        if (character < 32 || character > 126) {
            return INVALID_ARGUMENT;
        }
        if (!isBelow(script.length, MOST_SIGNS)) {
            return LIMIT_REACHED;
        }
        script.signs[script.length] = character;
        script.length++;
        return script.length;
    }

    public int clearText() {
        int length = script.length;
        script.length = 0;
        return length;
    }

    public int fault(int what) {
        if (!isBelow(what, 2)) {
            return INVALID_ARGUMENT;
        }
        spare.copyFrom(now);
        script.runOn(spare);
        if (script.reason == 0) {
            return NOT_FOUND;
        }
        return what == 0 ? script.place : script.reason;
    }

    public int play() {
        spare.copyFrom(now);
        script.runOn(spare);
        if (script.reason != 0) {
            return NOT_POSSIBLE;
        }
        Country before = now;
        now = spare;
        spare = before;
        return recorded(script.commands);
    }

    // ---- shared by the calls

    private static boolean isBelow(int number, int end) {
        return number >= 0 && number < end;
    }

    private static boolean has(long set, int event) {
        return (set >> event & 1L) != 0L;
    }

    /** Ends a call that may have been a change, with what was before it in the spare country. */
    private int recorded(int answer) {
        if (answer >= 0) {
            now.thinkAnew();
            keepSpare();
        }
        return answer;
    }

    /** Puts the spare country into the history; the place that it leaves takes one that is free. */
    private void keepSpare() {
        if (isBelow(states, MOST_STATES)) {
            Country free = history[states];
            history[states] = spare;
            spare = free;
            states++;
            return;
        }
        Country oldest = history[0];
        for (int state = 1; state < MOST_STATES; state++) {
            history[state - 1] = history[state];
        }
        history[MOST_STATES - 1] = spare;
        spare = oldest;
    }

    /** How many apologies more were made in the spare country than now. */
    private int newApologies() {
        return spare.apologiesFor(spare.events.all()) - now.apologiesFor(now.events.all());
    }

    /** The orders of which a town of the spare country thinks otherwise than now. */
    private long otherThoughts(int town) {
        if (!now.isTown(town)) {
            return 0L;
        }
        return (now.accepted[town] ^ spare.accepted[town]) | (now.refused[town] ^ spare.refused[town]);
    }

    /** All events; sets of them are told as bits of a long. */
    private static final class Events {
        private int count;
        private final int[] kinds = new int[MOST_EVENTS];
        private final int[] towns = new int[MOST_EVENTS];
        private final int[] clocks = new int[MOST_EVENTS];
        private final int[] goods = new int[MOST_EVENTS];
        private final int[] pieces = new int[MOST_EVENTS];
        // NOT_FOUND where an event has no such thing, as the calls tell it.
        private final int[] persons = new int[MOST_EVENTS];
        private final int[] orders = new int[MOST_EVENTS];

        private void copyFrom(Events other) {
            count = other.count;
            System.arraycopy(other.kinds, 0, kinds, 0, count);
            System.arraycopy(other.towns, 0, towns, 0, count);
            System.arraycopy(other.clocks, 0, clocks, 0, count);
            System.arraycopy(other.goods, 0, goods, 0, count);
            System.arraycopy(other.pieces, 0, pieces, 0, count);
            System.arraycopy(other.persons, 0, persons, 0, count);
            System.arraycopy(other.orders, 0, orders, 0, count);
        }

        private boolean isOrder(int event) {
            return isBelow(event, count) && kinds[event] == ORDER;
        }

        /** Adds an event that has no person and no order yet. */
        private int add(int kind, int town, int clock, int good, int number) {
            if (!isBelow(count, MOST_EVENTS)) {
                return LIMIT_REACHED;
            }
            kinds[count] = kind;
            towns[count] = town;
            clocks[count] = clock;
            goods[count] = good;
            pieces[count] = number;
            persons[count] = NOT_FOUND;
            orders[count] = NOT_FOUND;
            count++;
            return count - 1;
        }

        private long all() {
            return (1L << count) - 1L;
        }

        /** The events for which a certain value stands in a row. */
        private long having(int[] row, int value) {
            long set = 0L;
            for (int event = 0; event < count; event++) {
                if (row[event] == value) {
                    set |= 1L << event;
                }
            }
            return set;
        }

        private long cancelledIn(long known) {
            long cancelled = 0L;
            for (int event = 0; event < count; event++) {
                if (has(known, event) && kinds[event] == CANCELLATION) {
                    cancelled |= 1L << orders[event];
                }
            }
            return cancelled;
        }

        private long standingIn(long known) {
            return known & ~cancelledIn(known);
        }

        private int piecesOf(long set) {
            int sum = 0;
            for (int event = 0; event < count; event++) {
                if (has(set, event)) {
                    sum += pieces[event];
                }
            }
            return sum;
        }

        private int goodsOf(long set) {
            int bits = 0;
            for (int event = 0; event < count; event++) {
                if (has(set, event)) {
                    bits |= 1 << goods[event];
                }
            }
            return bits;
        }

        private int personsIn(long set) {
            int number = 0;
            for (int person = 0; person < PERSONS; person++) {
                if ((set & having(persons, person)) != 0L) {
                    number++;
                }
            }
            return number;
        }
    }

    /** Looks at orders as a town does that knows certain events. */
    private static final class Looking {
        // The orders of the good that was looked at last, in the order in which they were.
        private final int[] row = new int[MOST_EVENTS];
        private int length;
        private int left;
        private final int[] given = new int[PERSONS];
        private long accepted;
        private long refused;

        private void lookAtAll(Events events, long known, int rule) {
            accepted = 0L;
            refused = 0L;
            long standing = events.standingIn(known);
            for (int good = 0; good < GOODS; good++) {
                lookAtGood(events, standing, rule, good);
            }
        }

        private void lookAtGood(Events events, long standing, int rule, int good) {
            gather(events, standing, good);
            Arrays.fill(given, 0);
            for (int place = 0; place < length; place++) {
                int next = nextPlace(events, rule, place);
                int order = row[next];
                row[next] = row[place];
                row[place] = order;
                decide(order, events.pieces[order], events.persons[order]);
            }
        }

        private void gather(Events events, long standing, int good) {
            length = 0;
            left = 0;
            for (int event = 0; event < events.count; event++) {
                if (!has(standing, event) || events.goods[event] != good) {
                    continue;
                }
                if (events.kinds[event] == DELIVERY) {
                    left += events.pieces[event];
                } else if (events.kinds[event] == ORDER) {
                    row[length] = event;
                    length++;
                }
            }
        }

        private int nextPlace(Events events, int rule, int from) {
            int best = from;
            int lowest = weight(events, rule, row[from]);
            for (int place = from + 1; place < length; place++) {
                int weight = weight(events, rule, row[place]);
                if (weight < lowest) {
                    lowest = weight;
                    best = place;
                }
            }
            return best;
        }

        /** The order with the lowest weight is looked at next; no two have the same. */
        private int weight(Events events, int rule, int order) {
            int person = events.persons[order];
            int first = 0;
            if (rule == FEWEST_PIECES) {
                first = events.pieces[order];
            } else if (rule == FEWEST_GIVEN && person >= 0 && person < PERSONS) {
                first = given[person];
            }
            return first * MOMENTS + events.clocks[order] * MOST_TOWNS + events.towns[order];
        }

        private void decide(int order, int pieces, int person) {
            if (pieces > left) {
                refused |= 1L << order;
                return;
            }
            accepted |= 1L << order;
            left -= pieces;
            if (isBelow(person, PERSONS)) {
                given[person] += pieces;
            }
        }
    }

    /** All that a state of the history holds. */
    private static final class Country {
        // To look with; it holds nothing of the state. Each country has its own, so that nothing is handed out in making one.
        private final Looking looking = new Looking();
        private final Events events = new Events();
        private int towns;
        private int rule;
        private final int[] clocks = new int[MOST_TOWNS];
        private final long[] known = new long[MOST_TOWNS];
        private final long[] accepted = new long[MOST_TOWNS];
        private final long[] refused = new long[MOST_TOWNS];
        private final long[] apologised = new long[MOST_TOWNS];
        // What the towns knew, and the rule, when they thought last.
        private final long[] thoughtOf = new long[MOST_TOWNS];
        private int thoughtBy;

        private void copyFrom(Country other) {
            events.copyFrom(other.events);
            towns = other.towns;
            rule = other.rule;
            thoughtBy = other.thoughtBy;
            System.arraycopy(other.clocks, 0, clocks, 0, MOST_TOWNS);
            System.arraycopy(other.known, 0, known, 0, MOST_TOWNS);
            System.arraycopy(other.accepted, 0, accepted, 0, MOST_TOWNS);
            System.arraycopy(other.refused, 0, refused, 0, MOST_TOWNS);
            System.arraycopy(other.apologised, 0, apologised, 0, MOST_TOWNS);
            System.arraycopy(other.thoughtOf, 0, thoughtOf, 0, MOST_TOWNS);
        }

        private boolean isTown(int number) {
            return isBelow(number, towns);
        }

        private int addTown() {
            if (!isBelow(towns, MOST_TOWNS)) {
                return LIMIT_REACHED;
            }
            // Nothing stands in the rows of towns that are still to come.
            towns++;
            return towns - 1;
        }

        private int makeDelivery(int town, int good, int pieces) {
            if (!isTown(town) || !isBelow(good, GOODS) || !isBelow(pieces - 1, MOST_PIECES)) {
                return INVALID_ARGUMENT;
            }
            return make(DELIVERY, town, good, pieces);
        }

        private int makeOrder(int town, int person, int good, int pieces) {
            if (!isTown(town) || !isBelow(person, PERSONS)
                    || !isBelow(good, GOODS) || !isBelow(pieces - 1, MOST_PIECES)) {
                return INVALID_ARGUMENT;
            }
            int event = make(ORDER, town, good, pieces);
            if (event >= 0) {
                events.persons[event] = person;
            }
            return event;
        }

        private int makeCancellation(int town, int order) {
            if (!isTown(town) || !isBelow(order, events.count)) {
                return INVALID_ARGUMENT;
            }
            if (!events.isOrder(order) || !has(events.standingIn(known[town]), order)) {
                return NOT_POSSIBLE;
            }
            int event = make(CANCELLATION, town, events.goods[order], events.pieces[order]);
            if (event >= 0) {
                events.persons[event] = events.persons[order];
                events.orders[event] = order;
            }
            return event;
        }

        private int make(int kind, int town, int good, int pieces) {
            int event = events.add(kind, town, clocks[town] + 1, good, pieces);
            if (event >= 0) {
                clocks[town]++;
                known[town] |= 1L << event;
            }
            return event;
        }

        private int letMeet(int one, int other) {
            // What the first one hears ahead of the second is what the second knows anyway.
            int more = letHear(one, other);
            return more < 0 ? more : more + letHear(other, one);
        }

        private int letHear(int one, int other) {
            if (!isTown(one) || !isTown(other) || one == other) {
                return INVALID_ARGUMENT;
            }
            int more = newsFor(one, known[other]);
            known[one] |= known[other];
            clocks[one] = Math.max(clocks[one], clocks[other]);
            return more;
        }

        private int setRule(int number) {
            if (!isBelow(number, RULES)) {
                return INVALID_ARGUMENT;
            }
            int before = rule;
            rule = number;
            return before;
        }

        /** A town that knows the same, by the same rule, would think the same: it is passed over. */
        private void thinkAnew() {
            for (int town = 0; town < towns; town++) {
                if (thoughtBy != rule || thoughtOf[town] != known[town]) {
                    looking.lookAtAll(events, known[town], rule);
                    apologised[town] |= accepted[town] & looking.refused;
                    accepted[town] = looking.accepted;
                    refused[town] = looking.refused;
                    thoughtOf[town] = known[town];
                }
            }
            thoughtBy = rule;
        }

        /** How many of these events are new to a town. */
        private int newsFor(int town, long set) {
            return Long.bitCount(set & ~known[town]);
        }

        private int townsWith(long[] sets, int event) {
            int bits = 0;
            for (int town = 0; town < towns; town++) {
                if (has(sets[town], event)) {
                    bits |= 1 << town;
                }
            }
            return bits;
        }

        private int townsThatKnow(long set) {
            int bits = 0;
            for (int town = 0; town < towns; town++) {
                if (known[town] == set) {
                    bits |= 1 << town;
                }
            }
            return bits;
        }

        private int apologiesFor(long set) {
            int sum = 0;
            for (int town = 0; town < towns; town++) {
                sum += Long.bitCount(apologised[town] & set);
            }
            return sum;
        }

        private long knownByAll() {
            long set = events.all();
            for (int town = 0; town < towns; town++) {
                set &= known[town];
            }
            return set;
        }

        private boolean allKnowTheSame() {
            for (int town = 1; town < towns; town++) {
                if (known[town] != known[0]) {
                    return false;
                }
            }
            return true;
        }

        /** One round, of the knowledge alone. */
        private void meetInTurn() {
            for (int town = 1; town < towns; town++) {
                long both = known[town - 1] | known[town];
                known[town - 1] = both;
                known[town] = both;
            }
        }
    }

    /** The text, and how its commands fare in a country. */
    private static final class Script {
        private final int[] signs = new int[MOST_SIGNS];
        private int length;
        // The arguments of the command that was read last.
        private final int[] numbers = new int[MOST_NUMBERS];
        private int commands;
        private int place;
        private int reason;

        /** Does the commands up to the first fault: then place and reason tell of it; without one reason is 0. */
        private void runOn(Country country) {
            commands = 0;
            place = 0;
            reason = 0;
            while (commands < MOST_SIGNS && place < length) {
                int behind = read(place);
                reason = behind < 0 ? NOT_OF_THE_FORM : reasonOf(doCommand(country, signs[place]));
                if (reason != 0) {
                    return;
                }
                country.thinkAnew();
                commands++;
                place = behind;
            }
        }

        private static int reasonOf(int answer) {
            if (answer >= 0) {
                return 0;
            }
            return answer == INVALID_ARGUMENT ? OUT_OF_RANGE : NOT_POSSIBLE_OTHERWISE;
        }

        /** The place behind the command that begins here, or -1 if there is none of the form. */
        private int read(int start) {
            int at = start + 1;
            int all = numbersBehind(signAt(start));
            for (int index = 0; index < all; index++) {
                int digits = digitsAt(at);
                if (digits == 0) {
                    return -1;
                }
                numbers[index] = digits == 1 ? digit(at) : digit(at) * 10 + digit(at + 1);
                at += digits + 1;
                if (signAt(at - 1) != (index + 1 < all ? ',' : ';')) {
                    return -1;
                }
            }
            return all == 0 ? -1 : at;
        }

        private static int numbersBehind(int letter) {
            switch (letter) {
                case 'd': return 3;
                case 'o': return 4;
                case 'c':
                case 'm':
                case 'h': return 2;
                case 'r': return 1;
                default: return 0;
            }
        }

        private int doCommand(Country country, int letter) {
            switch (letter) {
                case 'd': return country.makeDelivery(numbers[0], numbers[1], numbers[2]);
                case 'o': return country.makeOrder(numbers[0], numbers[1], numbers[2], numbers[3]);
                case 'c': return country.makeCancellation(numbers[0], numbers[1]);
                case 'm': return country.letMeet(numbers[0], numbers[1]);
                case 'h': return country.letHear(numbers[0], numbers[1]);
                default: return country.setRule(numbers[0]);
            }
        }

        private int signAt(int at) {
            return isBelow(at, length) ? signs[at] : 0;
        }

        private boolean isDigit(int at) {
            return signAt(at) >= '0' && signAt(at) <= '9';
        }

        private int digit(int at) {
            return signAt(at) - '0';
        }

        private int digitsAt(int at) {
            if (!isDigit(at)) {
                return 0;
            }
            return isDigit(at + 1) ? 2 : 1;
        }
    }
}
