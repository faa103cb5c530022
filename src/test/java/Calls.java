/** Calls of KinderTowns by name, for the tests of the project. */
final class Calls {
    /** The most calls of an object: what later ones answer is free. */
    static final int MOST = 512;

    private Calls() {
    }

    static int on(KinderTowns x, String name, int... a) {
        switch (name) {
            case "town": return x.town();
            case "deliver": return x.deliver(a[0], a[1], a[2]);
            case "order": return x.order(a[0], a[1], a[2], a[3]);
            case "cancel": return x.cancel(a[0], a[1]);
            case "meet": return x.meet(a[0], a[1]);
            case "hear": return x.hear(a[0], a[1]);
            case "rule": return x.rule(a[0]);
            case "eventOf": return x.eventOf(a[0], a[1]);
            case "thinks": return x.thinks(a[0], a[1]);
            case "townOf": return x.townOf(a[0], a[1]);
            case "goodOf": return x.goodOf(a[0], a[1], a[2]);
            case "lookedAt": return x.lookedAt(a[0], a[1], a[2]);
            case "personOf": return x.personOf(a[0], a[1], a[2]);
            case "unheard": return x.unheard(a[0], a[1]);
            case "count": return x.count(a[0]);
            case "would": return x.would(a[0], a[1], a[2]);
            case "wouldRule": return x.wouldRule(a[0]);
            case "kindest": return x.kindest(a[0]);
            case "rounds": return x.rounds();
            case "undo": return x.undo();
            case "type": return x.type(a[0]);
            case "clearText": return x.clearText();
            case "fault": return x.fault(a[0]);
            case "play": return x.play();
            default: throw new IllegalArgumentException(name);
        }
    }
}
