/** Each promise of the document by itself: ordinary inputs, edges, wrong inputs. */
public final class PromiseTest {
    private static final int INVALID = KinderTowns.INVALID_ARGUMENT;
    private static final int NOT_POSSIBLE = KinderTowns.NOT_POSSIBLE;
    private static final int LIMIT = KinderTowns.LIMIT_REACHED;
    private static final int NOT_FOUND = KinderTowns.NOT_FOUND;
    private static final int[] OUTSIDE = {Integer.MIN_VALUE, -1000, -5, -4, -3, -2, -1, 100, 1000, Integer.MAX_VALUE};

    private static final Due DUE = new Due();

    public static void main(String[] args) {
        constants();
        promise1NewObject();
        promise2Town();
        promise3Deliver();
        promise4Order();
        promise5Cancel();
        promise6Meet();
        promise7Hear();
        promise8Rule();
        promise9EventOf();
        promise10Thinks();
        promise11TownOf();
        promise12GoodOf();
        promise13LookedAt();
        promise14PersonOf();
        promise15Unheard();
        promise16Count();
        promise17Would();
        promise18WouldRule();
        promise19Kindest();
        promise20Rounds();
        promise21Undo();
        promise22Type();
        promise23ClearText();
        promise24Fault();
        promise25Play();
        clocks();
        acceptance();
        apologies();
        history();
        errorsChangeNothing();
        DUE.end();
    }

    private static void due(String call, int got, int want) {
        DUE.is(call, got, want);
    }

    private static KinderTowns country(int towns) {
        KinderTowns x = new KinderTowns();
        for (int town = 0; town < towns; town++) {
            x.town();
        }
        return x;
    }

    private static void write(KinderTowns x, String text) {
        x.clearText();
        for (int index = 0; index < text.length(); index++) {
            x.type(text.charAt(index));
        }
    }

    private static void dueFault(KinderTowns x, String text, int position, int reason) {
        write(x, text);
        due("fault(0) of " + text, x.fault(0), position);
        due("fault(1) of " + text, x.fault(1), reason);
        if (position >= 0) {
            due("play of " + text, x.play(), NOT_POSSIBLE);
        }
    }

    private static void constants() {
        due("INVALID_ARGUMENT", KinderTowns.INVALID_ARGUMENT, -1);
        due("NOT_POSSIBLE", KinderTowns.NOT_POSSIBLE, -2);
        due("LIMIT_REACHED", KinderTowns.LIMIT_REACHED, -3);
        due("NOT_FOUND", KinderTowns.NOT_FOUND, -4);
    }

    private static void promise1NewObject() {
        KinderTowns x = new KinderTowns();
        for (int what = 0; what <= 10; what++) {
            due("new count " + what, x.count(what), what == 8 ? 1 : 0);
        }
        due("new rounds", x.rounds(), 0);
        due("new undo", x.undo(), NOT_POSSIBLE);
        due("new kindest 0", x.kindest(0), 0);
        due("new kindest 1", x.kindest(1), 0);
        due("new fault", x.fault(0), NOT_FOUND);
        due("new wouldRule", x.wouldRule(2), 0);
        due("new townOf", x.townOf(0, 0), INVALID);
        due("new clearText", x.clearText(), 0);
        KinderTowns y = country(1);
        due("objects are apart", x.count(0), 0);
        due("objects are apart", y.count(0), 1);
    }

    private static void promise2Town() {
        KinderTowns x = new KinderTowns();
        for (int town = 0; town < 5; town++) {
            due("town " + town, x.town(), town);
            due("towns", x.count(0), town + 1);
            for (int what = 0; what < 7; what++) {
                due("townOf new town", x.townOf(town, what), 0);
            }
        }
        due("sixth town", x.town(), LIMIT);
        due("towns stay 5", x.count(0), 5);
        x.undo();
        due("town after undo", x.town(), 4);
        KinderTowns late = country(1);
        late.deliver(0, 0, 5);
        late.town();
        due("a late town knows nothing", late.townOf(1, 1), 0);
    }

    private static void promise3Deliver() {
        KinderTowns x = country(2);
        due("deliver least", x.deliver(0, 0, 1), 0);
        due("deliver most", x.deliver(1, 5, 99), 1);
        due("stock least", x.goodOf(0, 0, 0), 1);
        due("stock most", x.goodOf(1, 5, 0), 99);
        due("kind", x.eventOf(0, 0), 0);
        due("pieces 0", x.deliver(0, 0, 0), INVALID);
        due("pieces 100", x.deliver(0, 0, 100), INVALID);
        due("town 2", x.deliver(2, 0, 1), INVALID);
        due("good 6", x.deliver(0, 6, 1), INVALID);
        for (int outside : OUTSIDE) {
            due("deliver town " + outside, x.deliver(outside, 0, 1), INVALID);
            due("deliver good " + outside, x.deliver(0, outside, 1), INVALID);
            due("deliver pieces " + outside, x.deliver(0, 0, outside), INVALID);
        }
        due("none was made", x.count(1), 2);
        for (int event = 2; event < 60; event++) {
            due("deliver " + event, x.deliver(0, 1, 99), event);
        }
        due("deliver the 61st", x.deliver(0, 1, 99), LIMIT);
        due("wrong rather than limit", x.deliver(0, 1, 100), INVALID);
        due("events stay 60", x.count(1), 60);
        due("stock of 58 deliveries", x.goodOf(0, 1, 0), 58 * 99);
        due("the last event's clock", x.eventOf(59, 2), 59);
    }

    private static void promise4Order() {
        KinderTowns x = country(2);
        due("order least", x.order(0, 0, 0, 1), 0);
        due("order most", x.order(1, 9, 5, 99), 1);
        due("kind", x.eventOf(1, 0), 1);
        due("person", x.eventOf(1, 5), 9);
        due("good", x.eventOf(1, 3), 5);
        due("pieces", x.eventOf(1, 4), 99);
        due("town 2", x.order(2, 0, 0, 1), INVALID);
        due("person 10", x.order(0, 10, 0, 1), INVALID);
        due("good 6", x.order(0, 0, 6, 1), INVALID);
        due("pieces 0", x.order(0, 0, 0, 0), INVALID);
        due("pieces 100", x.order(0, 0, 0, 100), INVALID);
        for (int outside : OUTSIDE) {
            due("order town " + outside, x.order(outside, 0, 0, 1), INVALID);
            due("order person " + outside, x.order(0, outside, 0, 1), INVALID);
            due("order good " + outside, x.order(0, 0, outside, 1), INVALID);
            due("order pieces " + outside, x.order(0, 0, 0, outside), INVALID);
        }
        for (int event = 2; event < 60; event++) {
            due("order " + event, x.order(0, 1, 1, 1), event);
        }
        due("order the 61st", x.order(0, 1, 1, 1), LIMIT);
        due("wrong rather than limit", x.order(0, 10, 1, 1), INVALID);
        due("all are refused", x.townOf(0, 3), 59);
    }

    private static void promise5Cancel() {
        KinderTowns x = country(2);
        x.deliver(0, 0, 10);
        x.order(0, 3, 0, 4);
        due("cancel a delivery", x.cancel(0, 0), NOT_POSSIBLE);
        due("cancel an unknown order", x.cancel(1, 1), NOT_POSSIBLE);
        due("cancel no event", x.cancel(0, 2), INVALID);
        due("cancel in no town", x.cancel(2, 1), INVALID);
        for (int outside : OUTSIDE) {
            due("cancel town " + outside, x.cancel(outside, 1), INVALID);
            due("cancel event " + outside, x.cancel(0, outside), INVALID);
        }
        x.hear(1, 0);
        due("cancel", x.cancel(0, 1), 2);
        due("cancel again", x.cancel(0, 1), NOT_POSSIBLE);
        due("cancel the cancellation", x.cancel(0, 2), NOT_POSSIBLE);
        due("accepted elsewhere still", x.thinks(1, 1), 0);
        due("cancel in a town that has not heard of it", x.cancel(1, 1), 3);
        x.meet(0, 1);
        due("cancelled once for both", x.townOf(0, 4), 1);
        due("two cancellations", x.count(4), 2);
        KinderTowns heard = country(2);
        heard.order(0, 0, 0, 1);
        heard.cancel(0, 0);
        heard.hear(1, 0);
        due("cancelled by hearing", heard.cancel(1, 0), NOT_POSSIBLE);
        KinderTowns full = country(1);
        full.order(0, 0, 0, 1);
        for (int event = 1; event < 60; event++) {
            full.deliver(0, 0, 1);
        }
        due("cancel the 61st", full.cancel(0, 0), LIMIT);
        due("not possible rather than limit", full.cancel(0, 1), NOT_POSSIBLE);
        due("wrong rather than not possible", full.cancel(0, 60), INVALID);
    }

    private static void promise6Meet() {
        KinderTowns x = country(3);
        x.deliver(0, 0, 1);
        x.deliver(0, 0, 1);
        x.deliver(1, 0, 1);
        due("meet", x.meet(0, 1), 3);
        due("meet again", x.meet(1, 0), 0);
        due("both know", x.eventOf(2, 7), 3);
        due("both know", x.eventOf(0, 7), 3);
        due("a third one does not", x.townOf(2, 1), 0);
        due("the other's clock", x.townOf(1, 0), 2);
        due("meet the third", x.meet(2, 0), 3);
        due("meet itself", x.meet(1, 1), INVALID);
        due("meet no town", x.meet(0, 3), INVALID);
        due("meet no town", x.meet(3, 0), INVALID);
        for (int outside : OUTSIDE) {
            due("meet " + outside, x.meet(outside, 0), INVALID);
            due("meet " + outside, x.meet(0, outside), INVALID);
            due("meet itself " + outside, x.meet(outside, outside), INVALID);
        }
    }

    private static void promise7Hear() {
        KinderTowns x = country(3);
        x.deliver(0, 0, 1);
        x.deliver(0, 0, 1);
        x.deliver(1, 0, 1);
        due("hear", x.hear(1, 0), 2);
        due("hear again", x.hear(1, 0), 0);
        due("the other hears nothing", x.townOf(0, 1), 2);
        due("clock of the one that hears", x.townOf(1, 0), 2);
        due("events of the one that hears", x.townOf(1, 1), 3);
        x.deliver(2, 0, 1);
        due("hear one with a lower clock", x.hear(0, 2), 1);
        due("clock stays the greater one", x.townOf(0, 0), 2);
        due("clock of the one heard stays", x.townOf(2, 0), 1);
        due("hear itself", x.hear(1, 1), INVALID);
        due("hear no town", x.hear(0, 3), INVALID);
        due("hear no town", x.hear(3, 0), INVALID);
        for (int outside : OUTSIDE) {
            due("hear " + outside, x.hear(outside, 0), INVALID);
            due("hear " + outside, x.hear(0, outside), INVALID);
        }
    }

    private static void promise8Rule() {
        KinderTowns x = country(1);
        due("rule 2", x.rule(2), 0);
        due("rule 1", x.rule(1), 2);
        due("rule 1 again", x.rule(1), 1);
        due("rule 3", x.rule(3), INVALID);
        for (int outside : OUTSIDE) {
            due("rule " + outside, x.rule(outside), INVALID);
        }
        due("the rule", x.count(5), 1);
        due("rule 0", x.rule(0), 1);
        due("the same rule is a change", x.count(9), 4);
    }

    private static void promise9EventOf() {
        KinderTowns x = country(3);
        x.deliver(2, 4, 20);
        x.hear(1, 2);
        x.order(1, 7, 4, 15);
        x.hear(0, 1);
        x.cancel(0, 1);
        int[][] want = {
            {0, 2, 1, 4, 20, NOT_FOUND, NOT_FOUND, 7, 0},
            {1, 1, 2, 4, 15, 7, NOT_FOUND, 3, 0},
            {2, 0, 3, 4, 15, 7, 1, 1, 0},
        };
        for (int event = 0; event < want.length; event++) {
            for (int what = 0; what < 9; what++) {
                due("eventOf(" + event + ", " + what + ")", x.eventOf(event, what), want[event][what]);
            }
        }
        due("no such event", x.eventOf(3, 0), INVALID);
        due("no such thing", x.eventOf(0, 9), INVALID);
        due("wrong rather than not found", x.eventOf(3, 5), INVALID);
        for (int outside : OUTSIDE) {
            due("eventOf event " + outside, x.eventOf(outside, 0), INVALID);
            due("eventOf what " + outside, x.eventOf(0, outside), INVALID);
        }
        KinderTowns sorry = twoTownsWithApology();
        due("who made an apology", sorry.eventOf(2, 8), 2);
        due("who made none", sorry.eventOf(1, 8), 0);
    }

    /** Town 1 accepted the order 2 for want of the order 1, which is the earlier one by its town. */
    private static KinderTowns twoTownsWithApology() {
        KinderTowns x = country(2);
        x.deliver(0, 0, 10);
        x.meet(0, 1);
        x.order(0, 1, 0, 6);
        x.order(1, 2, 0, 6);
        x.meet(0, 1);
        return x;
    }

    private static void promise10Thinks() {
        KinderTowns x = country(2);
        x.deliver(0, 0, 10);
        x.order(0, 1, 0, 10);
        x.order(0, 1, 0, 1);
        x.order(0, 1, 1, 1);
        due("just enough", x.thinks(0, 1), 0);
        due("none left", x.thinks(0, 2), 1);
        due("of another good", x.thinks(0, 3), 1);
        x.cancel(0, 1);
        due("cancelled", x.thinks(0, 1), 2);
        due("accepted then", x.thinks(0, 2), 0);
        due("unknown", x.thinks(1, 1), NOT_FOUND);
        due("a delivery", x.thinks(0, 0), NOT_POSSIBLE);
        due("a cancellation", x.thinks(0, 4), NOT_POSSIBLE);
        due("not possible rather than not found", x.thinks(1, 0), NOT_POSSIBLE);
        due("no such event", x.thinks(0, 5), INVALID);
        due("no such town", x.thinks(2, 0), INVALID);
        for (int outside : OUTSIDE) {
            due("thinks town " + outside, x.thinks(outside, 1), INVALID);
            due("thinks event " + outside, x.thinks(0, outside), INVALID);
        }
        x.hear(1, 0);
        due("heard", x.thinks(1, 1), 2);
    }

    private static void promise11TownOf() {
        KinderTowns x = twoTownsWithApology();
        x.order(0, 3, 0, 9);
        x.order(0, 4, 0, 2);
        x.cancel(0, 3);
        int[] first = {5, 6, 2, 1, 1, 0, 5, 1};
        int[] second = {2, 3, 1, 1, 0, 1, 1, 2};
        for (int what = 0; what < 8; what++) {
            due("townOf(0, " + what + ")", x.townOf(0, what), first[what]);
            due("townOf(1, " + what + ")", x.townOf(1, what), second[what]);
        }
        due("no such thing", x.townOf(0, 8), INVALID);
        due("no such town", x.townOf(2, 0), INVALID);
        for (int outside : OUTSIDE) {
            due("townOf town " + outside, x.townOf(outside, 0), INVALID);
            due("townOf what " + outside, x.townOf(0, outside), INVALID);
        }
        KinderTowns five = country(5);
        five.deliver(1, 0, 1);
        five.hear(4, 1);
        due("agree with 1", five.townOf(4, 7), 18);
        due("agree with 0", five.townOf(3, 7), 13);
        five.deliver(0, 0, 1);
        due("as many but others", five.townOf(0, 7), 1);
    }

    private static void promise12GoodOf() {
        KinderTowns x = country(2);
        x.deliver(0, 0, 10);
        x.deliver(0, 0, 5);
        x.deliver(0, 5, 7);
        x.order(0, 1, 0, 12);
        x.order(0, 2, 0, 4);
        x.order(0, 2, 0, 3);
        x.order(0, 2, 0, 8);
        x.order(0, 2, 0, 50);
        x.cancel(0, 7);
        int[] want = {15, 15, 0, 12};
        int[] other = {7, 0, 7, 0};
        for (int what = 0; what < 4; what++) {
            due("goodOf(0, 0, " + what + ")", x.goodOf(0, 0, what), want[what]);
            due("goodOf(0, 5, " + what + ")", x.goodOf(0, 5, what), other[what]);
            due("goodOf(1, 0, " + what + ")", x.goodOf(1, 0, what), 0);
        }
        due("no such town", x.goodOf(2, 0, 0), INVALID);
        due("no such good", x.goodOf(0, 6, 0), INVALID);
        due("no such thing", x.goodOf(0, 0, 4), INVALID);
        for (int outside : OUTSIDE) {
            due("goodOf town " + outside, x.goodOf(outside, 0, 0), INVALID);
            due("goodOf good " + outside, x.goodOf(0, outside, 0), INVALID);
            due("goodOf what " + outside, x.goodOf(0, 0, outside), INVALID);
        }
    }

    private static void promise13LookedAt() {
        KinderTowns x = country(2);
        x.order(0, 0, 2, 5);
        x.order(0, 0, 2, 3);
        x.order(0, 0, 1, 1);
        x.order(0, 0, 2, 3);
        x.order(0, 0, 2, 1);
        dueRow(x, 0, 2, 0, 1, 3, 4);
        dueRow(x, 0, 1, 2);
        dueRow(x, 0, 0);
        dueRow(x, 1, 2);
        x.rule(1);
        dueRow(x, 0, 2, 4, 1, 3, 0);
        x.cancel(0, 1);
        dueRow(x, 0, 2, 4, 3, 0);
        due("negative", x.lookedAt(0, 2, -1), INVALID);
        due("far", x.lookedAt(0, 2, Integer.MAX_VALUE), NOT_FOUND);
        due("far negative", x.lookedAt(0, 2, Integer.MIN_VALUE), INVALID);
        due("no such town", x.lookedAt(2, 2, 0), INVALID);
        due("no such good", x.lookedAt(0, 6, 0), INVALID);
        due("wrong rather than not found", x.lookedAt(0, 6, 99), INVALID);
        for (int outside : OUTSIDE) {
            due("lookedAt town " + outside, x.lookedAt(outside, 0, 0), INVALID);
            due("lookedAt good " + outside, x.lookedAt(0, outside, 0), INVALID);
        }
    }

    private static void dueRow(KinderTowns x, int town, int good, int... events) {
        for (int index = 0; index < events.length; index++) {
            due("lookedAt(" + town + ", " + good + ", " + index + ")", x.lookedAt(town, good, index), events[index]);
        }
        due("lookedAt behind the last", x.lookedAt(town, good, events.length), NOT_FOUND);
    }

    private static void promise14PersonOf() {
        KinderTowns x = twoTownsWithApology();
        x.order(0, 2, 3, 1);
        x.deliver(0, 3, 5);
        x.order(0, 2, 0, 4);
        x.order(0, 2, 0, 2);
        x.cancel(0, 6);
        int[] want = {4, 2, 5, 1};
        for (int what = 0; what < 4; what++) {
            due("personOf(0, 2, " + what + ")", x.personOf(0, 2, what), want[what]);
            due("personOf(0, 9, " + what + ")", x.personOf(0, 9, what), 0);
        }
        x.town();
        due("orders unknown to a town", x.personOf(2, 2, 0), 0);
        due("apologies of all towns", x.personOf(2, 2, 3), 1);
        due("no such town", x.personOf(3, 0, 0), INVALID);
        due("no such person", x.personOf(0, 10, 0), INVALID);
        due("no such thing", x.personOf(0, 0, 4), INVALID);
        for (int outside : OUTSIDE) {
            due("personOf town " + outside, x.personOf(outside, 0, 0), INVALID);
            due("personOf person " + outside, x.personOf(0, outside, 0), INVALID);
            due("personOf what " + outside, x.personOf(0, 0, outside), INVALID);
        }
        KinderTowns both = bothTownsChangeTheirMinds();
        due("each apology counted", both.personOf(0, 1, 3), 2);
    }

    /** The rule 1 makes both towns refuse the order 1, which both accepted. */
    private static KinderTowns bothTownsChangeTheirMinds() {
        KinderTowns x = country(2);
        x.deliver(0, 0, 10);
        x.order(0, 1, 0, 8);
        x.order(0, 2, 0, 3);
        x.meet(0, 1);
        x.rule(1);
        return x;
    }

    private static void promise15Unheard() {
        KinderTowns x = country(2);
        x.deliver(0, 0, 1);
        x.deliver(0, 0, 1);
        x.deliver(1, 0, 1);
        due("unheard(0, 1)", x.unheard(0, 1), 2);
        due("unheard(1, 0)", x.unheard(1, 0), 1);
        due("unheard(1, 1)", x.unheard(1, 1), 0);
        x.hear(1, 0);
        due("unheard when heard", x.unheard(0, 1), 0);
        due("unheard(1, 0) still", x.unheard(1, 0), 1);
        due("no such town", x.unheard(0, 2), INVALID);
        due("no such town", x.unheard(2, 0), INVALID);
        for (int outside : OUTSIDE) {
            due("unheard " + outside, x.unheard(outside, 0), INVALID);
            due("unheard " + outside, x.unheard(0, outside), INVALID);
        }
    }

    private static void promise16Count() {
        KinderTowns x = bothTownsChangeTheirMinds();
        x.order(1, 4, 4, 4);
        x.cancel(1, 3);
        write(x, "abc");
        int[] want = {2, 5, 1, 3, 1, 1, 2, 3, 0, 4, 3};
        for (int what = 0; what < want.length; what++) {
            due("count(" + what + ")", x.count(what), want[what]);
        }
        x.hear(0, 1);
        due("all know all", x.count(7), 5);
        due("all know the same", x.count(8), 1);
        x.town();
        due("but for a new one", x.count(7), 0);
        due("but for a new one", x.count(8), 0);
        due("no such number", x.count(11), INVALID);
        for (int outside : OUTSIDE) {
            due("count " + outside, x.count(outside), INVALID);
        }
        due("one town", country(1).count(8), 1);
        due("towns without events", country(5).count(8), 1);
    }

    private static void promise17Would() {
        KinderTowns x = country(3);
        x.deliver(0, 0, 10);
        x.meet(0, 1);
        x.order(0, 1, 0, 6);
        x.order(1, 2, 0, 6);
        x.order(1, 2, 5, 1);
        int states = x.count(9);
        due("apologies", x.would(0, 1, 0), 1);
        due("the same the other way", x.would(1, 0, 0), 1);
        due("events", x.would(0, 1, 1), 3);
        due("goods", x.would(0, 1, 2), 33);
        due("nothing happened", x.townOf(0, 1), 2);
        due("nothing happened", x.count(6), 0);
        due("nothing is recorded", x.count(9), states);
        x.meet(0, 1);
        due("none then", x.would(0, 1, 0), 0);
        due("none then", x.would(0, 1, 1), 0);
        due("none then", x.would(0, 1, 2), 0);
        due("goods that a new town learns of", x.would(2, 0, 2), 33);
        due("both the same", x.would(1, 1, 0), INVALID);
        due("no such thing", x.would(0, 1, 3), INVALID);
        due("no such town", x.would(0, 3, 0), INVALID);
        for (int outside : OUTSIDE) {
            due("would one " + outside, x.would(outside, 0, 0), INVALID);
            due("would other " + outside, x.would(0, outside, 0), INVALID);
            due("would what " + outside, x.would(0, 1, outside), INVALID);
        }
        wouldOfCancellations();
    }

    private static void wouldOfCancellations() {
        KinderTowns x = country(2);
        x.order(0, 1, 3, 6);
        x.hear(1, 0);
        x.cancel(0, 0);
        due("a refused order would be cancelled", x.would(0, 1, 2), 8);
        due("that is no apology", x.would(0, 1, 0), 0);
        KinderTowns y = country(2);
        y.order(0, 1, 3, 6);
        y.cancel(0, 0);
        due("an order heard of with its cancellation", y.would(0, 1, 2), 0);
        KinderTowns z = country(2);
        z.deliver(0, 2, 9);
        due("a delivery alone", z.would(0, 1, 2), 0);
    }

    private static void promise18WouldRule() {
        KinderTowns x = country(2);
        x.deliver(0, 0, 10);
        x.order(0, 1, 0, 8);
        x.order(0, 2, 0, 3);
        due("in one town", x.wouldRule(1), 1);
        x.meet(0, 1);
        due("in both towns", x.wouldRule(1), 2);
        due("the same rule", x.wouldRule(0), 0);
        due("by persons none", x.wouldRule(2), 0);
        due("nothing happened", x.count(5), 0);
        due("nothing happened", x.count(6), 0);
        x.rule(1);
        due("back to 0", x.wouldRule(0), 2);
        x.rule(0);
        due("only one apology for each", x.wouldRule(1), 0);
        due("rule 3", x.wouldRule(3), INVALID);
        for (int outside : OUTSIDE) {
            due("wouldRule " + outside, x.wouldRule(outside), INVALID);
        }
    }

    private static void promise19Kindest() {
        KinderTowns x = country(2);
        x.deliver(0, 0, 10);
        x.order(0, 1, 0, 4);
        x.order(0, 1, 0, 5);
        x.order(1, 2, 0, 6);
        due("as the persons take turns", x.kindest(0), 0);
        due("persons", x.kindest(1), 2);
        KinderTowns y = country(2);
        y.deliver(0, 0, 10);
        y.order(0, 1, 0, 8);
        y.order(0, 2, 0, 5);
        y.order(1, 3, 1, 5);
        y.order(0, 4, 0, 5);
        due("the fewest pieces first", y.kindest(0), 1);
        due("persons", y.kindest(1), 2);
        KinderTowns z = country(1);
        z.deliver(0, 0, 9);
        z.order(0, 1, 0, 3);
        z.order(0, 1, 0, 3);
        z.order(0, 1, 0, 3);
        z.order(0, 2, 0, 4);
        due("the fewest given first", z.kindest(0), 2);
        due("persons", z.kindest(1), 2);
        due("the rule stays", z.count(5), 0);
        KinderTowns apart = country(2);
        apart.deliver(0, 0, 9);
        apart.order(1, 1, 0, 3);
        due("with all events known", apart.kindest(1), 1);
        due("no such thing", x.kindest(2), INVALID);
        for (int outside : OUTSIDE) {
            due("kindest " + outside, x.kindest(outside), INVALID);
        }
    }

    private static void promise20Rounds() {
        due("one town", country(1).rounds(), 0);
        KinderTowns x = country(5);
        due("no events", x.rounds(), 0);
        x.deliver(0, 0, 1);
        due("from the first", x.rounds(), 1);
        x.deliver(4, 0, 1);
        due("from the last", x.rounds(), 4);
        due("nothing happened", x.townOf(0, 1), 1);
        x.hear(1, 4);
        due("from the second", x.rounds(), 1);
        x.hear(0, 1);
        x.hear(1, 0);
        x.hear(2, 0);
        x.hear(3, 0);
        x.hear(4, 0);
        due("all agree", x.rounds(), 0);
        x.deliver(2, 0, 1);
        due("from the middle", x.rounds(), 2);
    }

    private static void promise21Undo() {
        KinderTowns x = bothTownsChangeTheirMinds();
        write(x, "xy");
        due("undo the rule", x.undo(), 3);
        due("rule", x.count(5), 0);
        due("apologies", x.count(6), 0);
        due("accepted again", x.thinks(0, 1), 0);
        due("text stays", x.count(10), 2);
        due("undo the meeting", x.undo(), 2);
        due("not known", x.townOf(1, 1), 0);
        due("clock", x.townOf(1, 0), 0);
        due("undo an order", x.undo(), 1);
        due("events", x.count(1), 2);
        due("clock", x.townOf(0, 0), 2);
        due("undo an order", x.undo(), 0);
        due("no state is left", x.undo(), NOT_POSSIBLE);
        due("what is left", x.count(1), 1);
        due("order anew", x.order(1, 5, 4, 3), 1);
        due("its person", x.eventOf(1, 5), 5);
        due("its clock", x.eventOf(1, 2), 1);
        due("states", x.count(9), 1);
    }

    private static void promise22Type() {
        KinderTowns x = new KinderTowns();
        due("31", x.type(31), INVALID);
        due("127", x.type(127), INVALID);
        due("32", x.type(32), 1);
        due("126", x.type(126), 2);
        for (int length = 3; length <= 80; length++) {
            due("type", x.type('d'), length);
        }
        due("the 81st", x.type('d'), LIMIT);
        due("wrong rather than limit", x.type(127), INVALID);
        due("length", x.count(10), 80);
        for (int outside : new int[] {Integer.MIN_VALUE, -1, 0, 10, 128, 256 + 'd', 65536 + 'd', Integer.MAX_VALUE}) {
            due("type " + outside, x.type(outside), INVALID);
        }
        due("no change", x.count(9), 0);
        due("a full text without a command", x.fault(1), 1);
    }

    private static void promise23ClearText() {
        KinderTowns x = country(1);
        write(x, "d0,0,9;");
        due("clearText", x.clearText(), 7);
        due("clearText again", x.clearText(), 0);
        due("length", x.count(10), 0);
        due("type", x.type('r'), 1);
        due("nothing of the old text", x.fault(1), 1);
        due("no change", x.count(9), 1);
    }

    private static void promise24Fault() {
        KinderTowns x = country(2);
        due("no text", x.fault(0), NOT_FOUND);
        due("no text", x.fault(1), NOT_FOUND);
        due("no such thing", x.fault(2), INVALID);
        for (int outside : OUTSIDE) {
            due("fault " + outside, x.fault(outside), INVALID);
        }
        badTexts();
        textsInAFullCountry();
    }

    /** A delivery and an order in the first one of two towns. */
    private static KinderTowns orderInTheFirst() {
        KinderTowns x = country(2);
        x.deliver(0, 0, 9);
        x.order(0, 0, 0, 9);
        return x;
    }

    private static void badTexts() {
        String[] bad = {
            ";", " ", "d", "d0", "d0,0", "d0,0,1", "d0,0,1,", "d0;0,1;", "d0,0,1,1;", "d0,0;", "d,0,1;", "d0,,1;",
            "d0,0,;", "d000,0,1;", "d0,0,001;", "d0,0,100;", "d-1,0,1;", "d0, 0,1;", "D0,0,1;", "o0,0,0;", "o0,0,0,1",
            "c0;", "c0,1,1;", "c0", "m0;", "m0,1", "m0,1:", "h1,", "r;", "r", "r0,", "r0,0;", "x0;", "r0 ;", "9;", "d0,0,/;",
            "d0,0,:;", "r:;", "r1/;", "r1:;",
        };
        for (String text : bad) {
            dueFault(orderInTheFirst(), text, 0, 1);
        }
        String[] outside = {
            "d2,0,1;", "d0,6,1;", "d0,0,0;", "d0,0,00;", "d99,0,1;", "o2,0,0,1;", "o0,10,0,1;", "o0,0,6,1;", "o0,0,0,0;",
            "c2,1;", "c0,2;", "c0,99;", "m0,2;", "m2,0;", "m1,1;", "h0,0;", "h5,0;", "h0,5;", "r3;", "r99;", "c9,0;",
        };
        for (String text : outside) {
            dueFault(orderInTheFirst(), text, 0, 2);
        }
        KinderTowns x = orderInTheFirst();
        dueFault(x, "c0,0;", 0, 3);
        dueFault(x, "c1,1;", 0, 3);
        dueFault(x, "c0,1;c0,1;", 5, 3);
        dueFault(x, "r0;r1;d0,0,1;c0,3;", 13, 2);
        dueFault(x, "r1;r", 3, 1);
        dueFault(x, "r1;;", 3, 1);
        dueFault(x, "r3;x", 0, 2);
        String[] fine = {"r2;", "r00;", "r02;", "d00,05,99;", "o01,09,00,01;", "m0,1;", "h1,0;", "c0,1;", "h1,0;c1,1;",
            "d0,0,1;o0,1,1,1;c0,3;"};
        for (String text : fine) {
            dueFault(orderInTheFirst(), text, NOT_FOUND, NOT_FOUND);
        }
        due("nothing happened", x.count(1), 2);
    }

    private static void textsInAFullCountry() {
        KinderTowns x = orderInTheFirst();
        for (int event = 2; event < 59; event++) {
            x.deliver(0, 0, 1);
        }
        dueFault(x, "d0,0,1;d0,0,1;", 7, 3);
        dueFault(x, "d0,0,1;o0,0,0,1;", 7, 3);
        dueFault(x, "d0,0,1;c0,1;", 7, 3);
        dueFault(x, "d0,0,1;d0,6,1;", 7, 2);
        x.clearText();
        for (int command = 0; command < 16; command++) {
            for (char sign : "m0,1;".toCharArray()) {
                x.type(sign);
            }
        }
        due("80 signs", x.fault(0), NOT_FOUND);
    }

    private static void promise25Play() {
        KinderTowns x = new KinderTowns();
        due("no commands", x.play(), 0);
        due("that is a change", x.count(9), 1);
        due("undo it", x.undo(), 0);
        x.town();
        x.town();
        write(x, "d0,0,10;m0,1;o0,1,0,6;o1,2,0,6;r0;m0,1;c1,2;h0,1;");
        due("play", x.play(), 8);
        due("the text stays", x.count(10), 49);
        due("one change", x.count(9), 3);
        due("events", x.count(1), 4);
        due("towns think anew behind each command", x.count(6), 1);
        due("cancelled", x.thinks(0, 2), 2);
        due("play again", x.fault(1), 3);
        due("play again", x.play(), NOT_POSSIBLE);
        due("which changes nothing", x.count(1), 4);
        due("which changes nothing", x.count(9), 3);
        due("undo all of it", x.undo(), 2);
        due("events", x.count(1), 0);
        due("apologies", x.count(6), 0);
        due("play once more", x.play(), 8);
        KinderTowns y = bothTownsChangeTheirMinds();
        y.rule(0);
        write(y, "r1;r0;r2;");
        due("rules", y.play(), 3);
        due("the last rule", y.count(5), 2);
        due("an apology for the order that lost between", y.count(6), 4);
    }

    private static void clocks() {
        KinderTowns x = country(3);
        for (int event = 0; event < 3; event++) {
            x.deliver(0, 0, 1);
            due("clock", x.townOf(0, 0), event + 1);
            due("clock of the event", x.eventOf(event, 2), event + 1);
        }
        due("other clocks", x.townOf(1, 0), 0);
        x.hear(1, 0);
        due("clock heard", x.townOf(1, 0), 3);
        x.order(1, 0, 0, 1);
        due("the next one", x.eventOf(3, 2), 4);
        x.order(2, 0, 0, 1);
        due("of a town that heard nothing", x.eventOf(4, 2), 1);
        x.meet(1, 2);
        due("both have the greater one", x.townOf(2, 0), 4);
        due("both have the greater one", x.townOf(1, 0), 4);
        x.cancel(2, 3);
        due("clock of a cancellation", x.eventOf(5, 2), 5);
    }

    private static void acceptance() {
        KinderTowns x = country(3);
        x.deliver(0, 0, 10);
        x.order(2, 0, 0, 1);
        x.order(1, 0, 0, 1);
        x.order(1, 0, 0, 1);
        x.order(0, 0, 0, 1);
        x.meet(0, 1);
        x.meet(0, 2);
        x.rule(0);
        dueRow(x, 0, 0, 2, 1, 4, 3);
        KinderTowns y = country(1);
        y.rule(2);
        y.deliver(0, 1, 12);
        y.order(0, 0, 0, 1);
        y.order(0, 1, 1, 4);
        y.order(0, 1, 1, 9);
        y.order(0, 2, 1, 3);
        y.order(0, 2, 1, 1);
        y.order(0, 3, 1, 4);
        y.order(0, 3, 1, 1);
        dueRow(y, 0, 1, 2, 4, 6, 5, 3, 7);
        due("refused and passed over", y.thinks(0, 3), 1);
        due("none are left", y.thinks(0, 7), 1);
        due("accepted last", y.thinks(0, 5), 0);
        lateOrders();
    }

    /** However late an order is, the pieces and the persons come first by the rules 1 and 2. */
    private static void lateOrders() {
        KinderTowns x = country(5);
        x.deliver(4, 0, 3);
        x.order(4, 0, 0, 2);
        x.order(4, 0, 0, 2);
        for (int event = 3; event < 58; event++) {
            x.deliver(4, 1, 1);
        }
        x.order(4, 9, 0, 1);
        x.hear(0, 4);
        x.order(0, 8, 0, 1);
        dueRow(x, 0, 0, 1, 2, 58, 59);
        x.rule(1);
        dueRow(x, 0, 0, 58, 59, 1, 2);
        x.rule(2);
        dueRow(x, 0, 0, 1, 58, 59, 2);
        KinderTowns y = country(5);
        y.order(0, 0, 0, 2);
        y.hear(4, 0);
        for (int event = 1; event < 59; event++) {
            y.deliver(4, 1, 1);
        }
        y.order(4, 0, 0, 1);
        due("the highest clock", y.eventOf(59, 2), 60);
        y.rule(1);
        dueRow(y, 4, 0, 59, 0);
    }

    private static void apologies() {
        KinderTowns x = twoTownsWithApology();
        due("apologies of the towns", x.townOf(0, 5), 0);
        due("apologies of the towns", x.townOf(1, 5), 1);
        x.deliver(1, 0, 2);
        due("accepted again", x.thinks(1, 2), 0);
        x.order(1, 8, 0, 1);
        x.rule(1);
        due("once for each order", x.townOf(1, 5), 1);
        x.rule(0);
        due("and for another order", x.townOf(1, 5), 2);
        KinderTowns y = country(1);
        y.order(0, 0, 0, 5);
        due("refused at once is no apology", y.count(6), 0);
        y.deliver(0, 0, 5);
        y.cancel(0, 0);
        due("cancelled is no apology", y.count(6), 0);
        KinderTowns z = country(3);
        z.deliver(0, 0, 5);
        z.order(0, 0, 0, 5);
        z.rule(1);
        z.order(0, 1, 0, 2);
        due("by a newer order for fewer pieces", z.eventOf(1, 8), 1);
        z.hear(1, 0);
        due("what a town never accepted", z.eventOf(1, 8), 1);
        z.undo();
        z.undo();
        z.hear(1, 0);
        z.order(1, 1, 0, 2);
        z.hear(0, 1);
        z.undo();
        due("an undone apology is made anew", z.eventOf(1, 8), 2);
        z.hear(0, 1);
        due("an undone apology is made anew", z.eventOf(1, 8), 3);
    }

    private static void history() {
        KinderTowns x = country(5);
        due("states", x.count(9), 4);
        for (int left = 3; left >= 0; left--) {
            due("undo", x.undo(), left);
        }
        due("the oldest one was dropped", x.count(0), 1);
        due("undo", x.undo(), NOT_POSSIBLE);
        for (int round = 0; round < 20; round++) {
            x.deliver(0, 0, round + 1);
        }
        for (int round = 0; round < 4; round++) {
            x.undo();
        }
        due("events", x.count(1), 16);
        due("stock", x.goodOf(0, 0, 0), 16 * 17 / 2);
        x.order(0, 0, 0, 99);
        x.undo();
        due("stock", x.goodOf(0, 0, 0), 16 * 17 / 2);
        due("clock", x.townOf(0, 0), 16);
        otherTimes();
    }

    /** An event that was undone leaves nothing behind in the states in which another one has its number. */
    private static void otherTimes() {
        KinderTowns x = country(2);
        x.deliver(0, 1, 5);
        x.order(0, 1, 1, 5);
        x.cancel(0, 1);
        x.undo();
        x.undo();
        x.undo();
        x.order(1, 2, 3, 4);
        x.deliver(1, 3, 9);
        x.order(1, 3, 3, 6);
        x.undo();
        int[] first = {1, 1, 1, 3, 4, 2, NOT_FOUND, 2, 0};
        int[] second = {0, 1, 2, 3, 9, NOT_FOUND, NOT_FOUND, 2, 0};
        for (int what = 0; what < 9; what++) {
            due("eventOf(0, " + what + ") at another time", x.eventOf(0, what), first[what]);
            due("eventOf(1, " + what + ") at another time", x.eventOf(1, what), second[what]);
        }
        due("accepted", x.thinks(1, 0), 0);
    }

    private static void errorsChangeNothing() {
        KinderTowns x = twoTownsWithApology();
        int before = x.count(9);
        x.deliver(0, 0, 0);
        x.order(0, 0, 9, 1);
        x.cancel(0, 0);
        x.meet(0, 0);
        x.hear(0, 7);
        x.rule(7);
        write(x, "d0,0,9;q");
        x.play();
        due("states", x.count(9), before);
        due("events", x.count(1), 3);
        due("stock", x.goodOf(0, 0, 0), 10);
        due("clock", x.townOf(0, 0), 2);
        due("undo", x.undo(), 3);
        due("undone is the meeting", x.townOf(0, 1), 2);
    }
}
