import java.util.ArrayList;
import java.util.Arrays;
import java.util.Comparator;
import java.util.List;
import java.util.Set;
import java.util.TreeMap;
import java.util.TreeSet;
import java.util.regex.Matcher;
import java.util.regex.Pattern;

/**
 * The document once more, written for slowness: sets instead of bits, whole copies of the
 * state, nothing kept that can be found anew. ModelTest compares KinderTowns with it.
 */
final class PlainTowns {
    static final int INVALID = -1;
    static final int NOT_POSSIBLE = -2;
    static final int LIMIT = -3;
    static final int NOT_FOUND = -4;

    record Event(int number, char kind, int town, int clock, int person, int good, int pieces, int order) {
    }

    static final class State {
        List<Integer> clocks = new ArrayList<>();
        List<Set<Integer>> known = new ArrayList<>();
        List<Event> events = new ArrayList<>();
        Set<List<Integer>> apologies = new java.util.HashSet<>();
        int rule;

        State copy() {
            State copy = new State();
            copy.clocks.addAll(clocks);
            for (Set<Integer> set : known) {
                copy.known.add(new TreeSet<>(set));
            }
            copy.events.addAll(events);
            copy.apologies.addAll(apologies);
            copy.rule = rule;
            return copy;
        }

        boolean noTown(int town) {
            return town < 0 || town >= clocks.size();
        }

        boolean noEvent(int event) {
            return event < 0 || event >= events.size();
        }

        List<Event> told(Set<Integer> set) {
            return set.stream().map(events::get).toList();
        }

        Set<Integer> cancelled(Set<Integer> set) {
            Set<Integer> orders = new TreeSet<>();
            told(set).stream().filter(e -> e.kind == 'c').forEach(e -> orders.add(e.order));
            return orders;
        }

        int stock(Set<Integer> set, int good) {
            return told(set).stream().filter(e -> e.kind == 'd' && e.good == good).mapToInt(Event::pieces).sum();
        }

        /** Each order of the good in the order in which it is looked at, with whether it is accepted. */
        TreeMap<Integer, Object[]> look(Set<Integer> set, int good, int byRule) {
            List<Event> waiting = new ArrayList<>(told(set).stream()
                .filter(e -> e.kind == 'o' && e.good == good && !cancelled(set).contains(e.number)).toList());
            int[] given = new int[10];
            int left = stock(set, good);
            TreeMap<Integer, Object[]> looked = new TreeMap<>();
            Comparator<Event> earliest = Comparator.comparingInt(Event::clock).thenComparingInt(Event::town);
            while (!waiting.isEmpty()) {
                Comparator<Event> next = earliest;
                if (byRule == 1) {
                    next = Comparator.comparingInt(Event::pieces).thenComparing(earliest);
                } else if (byRule == 2) {
                    next = Comparator.comparingInt((Event e) -> given[e.person]).thenComparing(earliest);
                }
                Event event = waiting.stream().min(next).get();
                waiting.remove(event);
                boolean accepted = event.pieces <= left;
                if (accepted) {
                    left -= event.pieces;
                    given[event.person] += event.pieces;
                }
                looked.put(looked.size(), new Object[] {event, accepted});
            }
            return looked;
        }

        Set<Integer> decided(Set<Integer> set, int byRule, boolean accepted) {
            Set<Integer> orders = new TreeSet<>();
            for (int good = 0; good < 6; good++) {
                for (Object[] each : look(set, good, byRule).values()) {
                    if ((Boolean) each[1] == accepted) {
                        orders.add(((Event) each[0]).number);
                    }
                }
            }
            return orders;
        }

        Set<Integer> accepted(int town) {
            return decided(known.get(town), rule, true);
        }

        Set<Integer> refused(int town) {
            return decided(known.get(town), rule, false);
        }

        int town() {
            if (clocks.size() == 5) {
                return LIMIT;
            }
            clocks.add(0);
            known.add(new TreeSet<>());
            return clocks.size() - 1;
        }

        int make(char kind, int town, int person, int good, int pieces, int order) {
            if (events.size() == 60) {
                return LIMIT;
            }
            clocks.set(town, clocks.get(town) + 1);
            int number = events.size();
            events.add(new Event(number, kind, town, clocks.get(town), person, good, pieces, order));
            known.get(town).add(number);
            return number;
        }

        int cancel(int town, int order) {
            if (noTown(town) || noEvent(order)) {
                return INVALID;
            }
            Event event = events.get(order);
            if (event.kind != 'o' || !known.get(town).contains(order) || cancelled(known.get(town)).contains(order)) {
                return NOT_POSSIBLE;
            }
            return make('c', town, event.person, event.good, event.pieces, order);
        }

        int hear(int one, int other, boolean both) {
            if (noTown(one) || noTown(other) || one == other) {
                return INVALID;
            }
            int before = known.get(one).size() + known.get(other).size();
            Set<Integer> first = new TreeSet<>(known.get(one));
            int clock = Math.max(clocks.get(one), clocks.get(other));
            known.get(one).addAll(known.get(other));
            clocks.set(one, clock);
            if (both) {
                known.get(other).addAll(first);
                clocks.set(other, clock);
            }
            return known.get(one).size() + known.get(other).size() - before;
        }

        int setRule(int to) {
            if (to < 0 || to > 2) {
                return INVALID;
            }
            int was = rule;
            rule = to;
            return was;
        }

        private int number(List<Integer> a, int index) {
            return a.get(index);
        }

        int change(char letter, List<Integer> a) {
            int first = a.isEmpty() ? 0 : number(a, 0);
            switch (letter) {
                case 't':
                    return town();
                case 'd':
                    if (noTown(first) || number(a, 1) < 0 || number(a, 1) > 5 || number(a, 2) < 1 || number(a, 2) > 99) {
                        return INVALID;
                    }
                    return make('d', first, NOT_FOUND, number(a, 1), number(a, 2), NOT_FOUND);
                case 'o':
                    if (noTown(first) || number(a, 1) < 0 || number(a, 1) > 9 || number(a, 2) < 0 || number(a, 2) > 5
                            || number(a, 3) < 1 || number(a, 3) > 99) {
                        return INVALID;
                    }
                    return make('o', first, number(a, 1), number(a, 2), number(a, 3), NOT_FOUND);
                case 'c':
                    return cancel(first, number(a, 1));
                case 'm':
                    return hear(first, number(a, 1), true);
                case 'h':
                    return hear(first, number(a, 1), false);
                default:
                    return setRule(first);
            }
        }

        /** A change, behind which the towns think anew. */
        int changeAndThink(char letter, List<Integer> a) {
            List<Set<Integer>> ahead = new ArrayList<>();
            for (int town = 0; town < clocks.size(); town++) {
                ahead.add(accepted(town));
            }
            int answer = change(letter, a);
            for (int town = 0; answer >= 0 && town < ahead.size(); town++) {
                Set<Integer> lost = ahead.get(town);
                lost.retainAll(refused(town));
                for (int order : lost) {
                    apologies.add(List.of(town, order));
                }
            }
            return answer;
        }

        boolean agree() {
            return new java.util.HashSet<>(known).size() <= 1;
        }
    }

    private static final Pattern COMMAND = Pattern.compile(
        "(?:d\\d\\d?,\\d\\d?,\\d\\d?|o\\d\\d?,\\d\\d?,\\d\\d?,\\d\\d?|[cmh]\\d\\d?,\\d\\d?|r\\d\\d?);");

    State now = new State();
    final List<State> history = new ArrayList<>();
    String text = "";

    int call(String name, int... a) {
        switch (name) {
            case "town": return changed('t');
            case "deliver": return changed('d', a);
            case "order": return changed('o', a);
            case "cancel": return changed('c', a);
            case "meet": return changed('m', a);
            case "hear": return changed('h', a);
            case "rule": return changed('r', a);
            case "eventOf": return eventOf(a[0], a[1]);
            case "thinks": return thinks(a[0], a[1]);
            case "townOf": return townOf(a[0], a[1]);
            case "goodOf": return goodOf(a[0], a[1], a[2]);
            case "lookedAt": return lookedAt(a[0], a[1], a[2]);
            case "personOf": return personOf(a[0], a[1], a[2]);
            case "unheard": return unheard(a[0], a[1]);
            case "count": return count(a[0]);
            case "would": return would(a[0], a[1], a[2]);
            case "wouldRule": return wouldRule(a[0]);
            case "kindest": return kindest(a[0]);
            case "rounds": return rounds();
            case "undo": return undo();
            case "type": return type(a[0]);
            case "clearText": return clearText();
            case "fault": return fault(a[0]);
            case "play": return play();
            default: throw new IllegalArgumentException(name);
        }
    }

    private static List<Integer> list(int... a) {
        return Arrays.stream(a).boxed().toList();
    }

    private void keep(State before) {
        history.add(before);
        if (history.size() == 5) {
            history.remove(0);
        }
    }

    private int changed(char letter, int... a) {
        State before = now.copy();
        int answer = now.changeAndThink(letter, list(a));
        if (answer >= 0) {
            keep(before);
        }
        return answer;
    }

    private static int bits(Iterable<Integer> numbers) {
        int set = 0;
        for (int number : numbers) {
            set |= 1 << number;
        }
        return set;
    }

    private int eventOf(int event, int what) {
        if (now.noEvent(event) || what < 0 || what > 8) {
            return INVALID;
        }
        Event e = now.events.get(event);
        Set<Integer> towns = new TreeSet<>();
        for (int town = 0; town < now.clocks.size(); town++) {
            if (what == 7 ? now.known.get(town).contains(event) : now.apologies.contains(List.of(town, event))) {
                towns.add(town);
            }
        }
        int[] all = {"doc".indexOf(e.kind), e.town, e.clock, e.good, e.pieces, e.person, e.order, bits(towns), bits(towns)};
        return all[what];
    }

    private int thinks(int town, int event) {
        if (now.noTown(town) || now.noEvent(event)) {
            return INVALID;
        }
        if (now.events.get(event).kind != 'o') {
            return NOT_POSSIBLE;
        }
        if (!now.known.get(town).contains(event)) {
            return NOT_FOUND;
        }
        if (now.cancelled(now.known.get(town)).contains(event)) {
            return 2;
        }
        return now.accepted(town).contains(event) ? 0 : 1;
    }

    private int townOf(int town, int what) {
        if (now.noTown(town) || what < 0 || what > 7) {
            return INVALID;
        }
        switch (what) {
            case 0: return now.clocks.get(town);
            case 1: return now.known.get(town).size();
            case 2: return now.accepted(town).size();
            case 3: return now.refused(town).size();
            case 4: return now.cancelled(now.known.get(town)).size();
            case 5: return (int) now.apologies.stream().filter(pair -> pair.get(0) == town).count();
            case 6: return (int) now.events.stream().filter(e -> e.town == town).count();
            default:
                Set<Integer> same = new TreeSet<>();
                for (int other = 0; other < now.clocks.size(); other++) {
                    if (now.known.get(other).equals(now.known.get(town))) {
                        same.add(other);
                    }
                }
                return bits(same);
        }
    }

    private int goodOf(int town, int good, int what) {
        if (now.noTown(town) || good < 0 || good > 5 || what < 0 || what > 3) {
            return INVALID;
        }
        int stock = now.stock(now.known.get(town), good);
        int accepted = 0;
        int refused = 0;
        for (Object[] each : now.look(now.known.get(town), good, now.rule).values()) {
            int pieces = ((Event) each[0]).pieces;
            accepted += (Boolean) each[1] ? pieces : 0;
            refused += (Boolean) each[1] ? 0 : pieces;
        }
        return new int[] {stock, accepted, stock - accepted, refused}[what];
    }

    private int lookedAt(int town, int good, int index) {
        if (now.noTown(town) || good < 0 || good > 5 || index < 0) {
            return INVALID;
        }
        Object[] each = now.look(now.known.get(town), good, now.rule).get(index);
        return each == null ? NOT_FOUND : ((Event) each[0]).number;
    }

    private int personOf(int town, int person, int what) {
        if (now.noTown(town) || person < 0 || person > 9 || what < 0 || what > 3) {
            return INVALID;
        }
        int sum = 0;
        for (Event e : now.events) {
            if (e.kind != 'o' || e.person != person) {
                continue;
            }
            boolean accepted = now.accepted(town).contains(e.number);
            switch (what) {
                case 0: sum += now.known.get(town).contains(e.number) ? 1 : 0; break;
                case 1: sum += accepted ? 1 : 0; break;
                case 2: sum += accepted ? e.pieces : 0; break;
                default: sum += (int) now.apologies.stream().filter(pair -> pair.get(1) == e.number).count();
            }
        }
        return sum;
    }

    private int unheard(int one, int other) {
        if (now.noTown(one) || now.noTown(other)) {
            return INVALID;
        }
        Set<Integer> set = new TreeSet<>(now.known.get(one));
        set.removeAll(now.known.get(other));
        return set.size();
    }

    private int kind(char kind) {
        return (int) now.events.stream().filter(e -> e.kind == kind).count();
    }

    private int count(int what) {
        Set<Integer> byAll = new TreeSet<>();
        now.events.forEach(e -> byAll.add(e.number));
        now.known.forEach(byAll::retainAll);
        int[] all = {now.clocks.size(), now.events.size(), kind('d'), kind('o'), kind('c'), now.rule,
            now.apologies.size(), byAll.size(), now.agree() ? 1 : 0, history.size(), text.length()};
        return what < 0 || what >= all.length ? INVALID : all[what];
    }

    private int would(int one, int other, int what) {
        if (now.noTown(one) || now.noTown(other) || one == other || what < 0 || what > 2) {
            return INVALID;
        }
        State then = now.copy();
        int more = then.changeAndThink('m', list(one, other));
        Set<Integer> goods = new TreeSet<>();
        for (int town : new int[] {one, other}) {
            for (Event e : now.events) {
                if (now.accepted(town).contains(e.number) != then.accepted(town).contains(e.number)
                        || now.refused(town).contains(e.number) != then.refused(town).contains(e.number)) {
                    goods.add(e.good);
                }
            }
        }
        return new int[] {then.apologies.size() - now.apologies.size(), more, bits(goods)}[what];
    }

    private int wouldRule(int rule) {
        State then = now.copy();
        int answer = then.changeAndThink('r', list(rule));
        return answer < 0 ? answer : then.apologies.size() - now.apologies.size();
    }

    private int kindest(int what) {
        if (what < 0 || what > 1) {
            return INVALID;
        }
        Set<Integer> every = new TreeSet<>();
        now.events.forEach(e -> every.add(e.number));
        int[] best = {0, 0};
        for (int rule = 2; rule >= 0; rule--) {
            Set<Integer> persons = new TreeSet<>();
            now.decided(every, rule, true).forEach(order -> persons.add(now.events.get(order).person));
            if (persons.size() >= best[1]) {
                best = new int[] {rule, persons.size()};
            }
        }
        return best[what];
    }

    private int rounds() {
        State then = now.copy();
        int rounds = 0;
        while (!then.agree()) {
            for (int town = 0; town + 1 < then.clocks.size(); town++) {
                then.hear(town, town + 1, true);
            }
            rounds++;
        }
        return rounds;
    }

    private int undo() {
        if (history.isEmpty()) {
            return NOT_POSSIBLE;
        }
        now = history.remove(history.size() - 1);
        return history.size();
    }

    private int type(int character) {
        if (character < 32 || character > 126) {
            return INVALID;
        }
        if (text.length() == 80) {
            return LIMIT;
        }
        text += (char) character;
        return text.length();
    }

    private int clearText() {
        int length = text.length();
        text = "";
        return length;
    }

    /** Does the text on a state; the place and the reason of the fault, or the commands and 0. */
    private int[] run(State state) {
        int commands = 0;
        int at = 0;
        while (at < text.length()) {
            Matcher matcher = COMMAND.matcher(text).region(at, text.length());
            if (!matcher.lookingAt()) {
                return new int[] {at, 1};
            }
            String[] parts = matcher.group().substring(1, matcher.group().length() - 1).split(",");
            int[] numbers = Arrays.stream(parts).mapToInt(Integer::parseInt).toArray();
            int answer = state.changeAndThink(text.charAt(at), list(numbers));
            if (answer < 0) {
                return new int[] {at, answer == INVALID ? 2 : 3};
            }
            at = matcher.end();
            commands++;
        }
        return new int[] {commands, 0};
    }

    private int fault(int what) {
        if (what < 0 || what > 1) {
            return INVALID;
        }
        int[] end = run(now.copy());
        return end[1] == 0 ? NOT_FOUND : end[what];
    }

    private int play() {
        State then = now.copy();
        int[] end = run(then);
        if (end[1] != 0) {
            return NOT_POSSIBLE;
        }
        keep(now);
        now = then;
        return end[0];
    }
}
