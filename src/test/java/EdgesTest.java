import java.io.IOException;

/** Each sentence of the promises that names a boundary, with runs that show it. */
public final class EdgesTest {
    private static final Due DUE = new Due();
    private static final String OUT_OF_RANGE = "INVALID_ARGUMENT if an argument is out of range";
    private static final String WHAT_OUT_OF_RANGE = "INVALID_ARGUMENT if what is out of range";
    private static final String SIXTY = "town() order(0,3,2,1) 59*deliver(0,0,1)";
    /** A delivery in town 2, an order in town 1, its cancellation in town 0. */
    private static final String THREE_KINDS =
        "3*town() deliver(2,4,20)=0 hear(1,2)=1 order(1,7,4,15)=1 hear(0,1)=2 cancel(0,1)=2";
    /** Both towns know the order 1 for 8 pieces and the order 2 for 3; there are 10. */
    private static final String EIGHT_AND_THREE =
        "town() town() deliver(0,0,10) order(0,1,0,8)=1 order(0,2,0,3)=2 hear(1,0)";

    private final Sentences doc;

    private EdgesTest(String document) throws IOException {
        doc = new Sentences(DUE, document);
    }

    public static void main(String[] args) throws IOException {
        EdgesTest test = new EdgesTest(args[1]);
        test.newObject();
        test.town();
        test.deliver();
        test.order();
        test.cancel();
        test.cancelNotPossible();
        test.meet();
        test.hear();
        test.rule();
        test.eventOfKinds();
        test.eventOfSets();
        test.eventOfErrors();
        test.thinks();
        test.townOf();
        test.townOfSame();
        test.goodOf();
        test.lookedAt();
        test.personOf();
        test.unheard();
        test.count();
        test.countOfAgreement();
        test.would();
        test.wouldGoods();
        test.wouldRule();
        test.kindest();
        test.rounds();
        test.undo();
        test.type();
        test.clearText();
        test.fault();
        test.play();
        DUE.end();
    }

    private static String[] range(String ahead, String call, int lowest, int highest) {
        return Sentences.range(ahead, call, lowest, highest);
    }

    private static String outside(String ahead, String call, int lowest, int highest) {
        return Sentences.outside(ahead, call, lowest, highest);
    }

    private void newObject() {
        doc.under("Promise 1: A new object");
        doc.says("Creates a country without towns; the rule is 0.",
            "count(0)=0 count(1)=0 count(2)=0 count(3)=0 count(4)=0 count(5)=0 count(6)=0 count(7)=0 count(8)=1 count(9)=0"
                + " count(10)=0",
            "townOf(0,0)=INVALID", "rule(1)=0", "town()=0", "undo()=NOT_POSSIBLE", "rounds()=0", "kindest(0)=0 kindest(1)=0",
            "fault(0)=NOT_FOUND fault(1)=NOT_FOUND", "wouldRule(0)=0 wouldRule(1)=0 wouldRule(2)=0", "play()=0", "clearText()=0");
    }

    private void town() {
        doc.under("Promise 2: town");
        doc.says("Adds a town, which knows nothing.",
            "town() townOf(0,1)=0 townOf(0,2)=0 townOf(0,3)=0 townOf(0,4)=0 townOf(0,5)=0 townOf(0,6)=0",
            "4*town() 56*deliver(0,0,1) town()=4 townOf(4,1)=0 unheard(0,4)=56 goodOf(4,0,0)=0");
        doc.says("Returns its number; LIMIT_REACHED if there are 5.",
            "town()=0 town()=1 town()=2 town()=3 town()=4 town()=LIMIT town()=LIMIT count(0)=5 count(9)=4",
            "5*town() undo() town()=4 town()=LIMIT");
    }

    private void deliver() {
        doc.under("Promise 3: deliver");
        doc.says("`town`: number of the town", range("town()", "deliver(#,0,1)", 0, 0));
        doc.says("`town`: number of the town", range("5*town()", "deliver(#,0,1)", 0, 4));
        doc.says("`good`: 0 to 5", range("town()", "deliver(0,#,1)", 0, 5));
        doc.says("`pieces`: 1 to 99", range("town()", "deliver(0,0,#)", 1, 99));
        doc.says("`pieces`: 1 to 99", "town() deliver(0,0,1)=0 deliver(0,5,99)=1 goodOf(0,0,0)=1 goodOf(0,5,0)=99");
        doc.says("Returns the number of the event", "town() deliver(0,0,1)=0 deliver(0,0,1)=1 57*deliver(0,0,1) deliver(0,0,1)=59");
        doc.says(OUT_OF_RANGE, "deliver(0,0,1)=INVALID", "town() deliver(1,6,0)=INVALID deliver(-1,-1,-1)=INVALID count(1)=0");
        doc.says("LIMIT_REACHED if there are 60 events",
            "town() 60*deliver(0,0,1) deliver(0,0,1)=LIMIT goodOf(0,0,0)=60 townOf(0,0)=60",
            "town() 60*order(0,0,0,1) deliver(0,0,1)=LIMIT", SIXTY + " town() deliver(1,0,1)=LIMIT townOf(1,1)=0 townOf(1,0)=0",
            SIXTY + " undo() deliver(0,0,1)=59 deliver(0,0,1)=LIMIT");
    }

    private void order() {
        doc.under("Promise 4: order");
        doc.says("`town`: number of the town", range("town()", "order(#,0,0,1)", 0, 0));
        doc.says("`town`: number of the town", range("5*town()", "order(#,0,0,1)", 0, 4));
        doc.says("`person`: 0 to 9", range("town()", "order(0,#,0,1)", 0, 9));
        doc.says("`good`: 0 to 5", range("town()", "order(0,0,#,1)", 0, 5));
        doc.says("`pieces`: 1 to 99", range("town()", "order(0,0,0,#)", 1, 99));
        doc.says("`pieces`: 1 to 99", "town() order(0,0,0,1)=0 order(0,9,5,99)=1 eventOf(0,4)=1 eventOf(1,4)=99 eventOf(1,5)=9"
            + " eventOf(1,3)=5 eventOf(0,5)=0 eventOf(0,3)=0");
        doc.says("Returns the number of the event", "town() order(0,0,0,1)=0 order(0,0,0,1)=1 57*order(0,0,0,1) order(0,0,0,1)=59");
        doc.says(OUT_OF_RANGE, "order(0,0,0,1)=INVALID", "town() order(1,10,6,0)=INVALID order(-1,-1,-1,-1)=INVALID count(1)=0");
        doc.says("LIMIT_REACHED if there are 60 events",
            "town() 60*order(0,0,0,1) order(0,0,0,1)=LIMIT townOf(0,3)=60 townOf(0,0)=60",
            "town() 60*deliver(0,0,1) order(0,0,0,1)=LIMIT count(3)=0", SIXTY + " town() order(1,0,0,1)=LIMIT townOf(1,1)=0",
            SIXTY + " undo() order(0,0,0,1)=59 order(0,0,0,1)=LIMIT");
    }

    private void cancel() {
        doc.under("Promise 5: cancel");
        doc.says("`town`: number of the town", range("town() order(0,0,0,1)", "cancel(#,0)", 0, 0));
        doc.says("`town`: number of the town",
            range("5*town() order(0,0,0,1) hear(1,0) hear(2,0) hear(3,0) hear(4,0)", "cancel(#,0)", 0, 4));
        doc.says("`event`: number of the order", range("town() order(0,0,0,1)", "cancel(0,#)", 0, 0));
        doc.says("`event`: number of the order", range("town() 59*order(0,0,0,1)", "cancel(0,#)", 0, 58));
        doc.says("Returns the number of the new event",
            "town() order(0,0,0,1) cancel(0,0)=1 order(0,0,0,1)=2 cancel(0,2)=3", "town() 59*order(0,0,0,1) cancel(0,58)=59");
        doc.says(OUT_OF_RANGE, "cancel(0,0)=INVALID", "town() cancel(0,0)=INVALID", "town() order(0,0,0,1) cancel(1,1)=INVALID");
        doc.says("LIMIT_REACHED if there are 60 events",
            SIXTY + " cancel(0,0)=LIMIT thinks(0,0)=1 count(4)=0 townOf(0,0)=60", "town() 60*order(0,0,0,1) cancel(0,59)=LIMIT",
            SIXTY + " undo() cancel(0,0)=59 thinks(0,0)=2");
    }

    private void cancelNotPossible() {
        doc.under("Promise 5: cancel");
        doc.says("NOT_POSSIBLE if the event is no order",
            "town() deliver(0,0,1) cancel(0,0)=NOT_POSSIBLE", "town() order(0,0,0,1) cancel(0,0)=1 cancel(0,1)=NOT_POSSIBLE",
            "town() 59*deliver(0,0,1) cancel(0,58)=NOT_POSSIBLE", "town() town() deliver(0,0,1) cancel(1,0)=NOT_POSSIBLE");
        doc.says("NOT_POSSIBLE if the event is no order, the town does not know it",
            "town() town() order(0,0,0,1) cancel(1,0)=NOT_POSSIBLE hear(0,1) cancel(1,0)=NOT_POSSIBLE hear(1,0) cancel(1,0)=1",
            "5*town() order(0,0,0,1) meet(0,1) cancel(4,0)=NOT_POSSIBLE");
        doc.says("or it is cancelled for this town already",
            "town() order(0,0,0,1) cancel(0,0)=1 cancel(0,0)=NOT_POSSIBLE",
            "town() town() order(0,0,0,1) cancel(0,0)=1 hear(1,0) cancel(1,0)=NOT_POSSIBLE",
            "town() town() order(0,0,0,1) hear(1,0) cancel(0,0)=1 cancel(1,0)=2 meet(0,1) cancel(1,0)=NOT_POSSIBLE count(4)=2"
                + " townOf(1,4)=1",
            "town() order(0,0,0,1) cancel(0,0) undo() cancel(0,0)=1");
    }

    private void meet() {
        doc.under("Promise 6: meet");
        doc.says("`one`: number of a town", outside("5*town()", "meet(#,0)", 0, 4), "5*town() meet(1,0)=0 meet(4,0)=0");
        doc.says("`other`: number of another town", outside("5*town()", "meet(0,#)", 0, 4), "5*town() meet(0,1)=0 meet(0,4)=0",
            outside("town() town()", "meet(0,#)", 0, 1));
        doc.says("Returns how many events both together know more of then",
            "town() town() meet(0,1)=0", "town() town() deliver(0,0,1) meet(0,1)=1 meet(0,1)=0",
            "town() town() deliver(1,0,1) meet(0,1)=1", "town() town() deliver(0,0,1) deliver(1,0,1) meet(0,1)=2",
            "town() town() 30*deliver(0,0,1) 30*deliver(1,0,1) meet(1,0)=60", "town() town() 60*deliver(1,0,1) meet(0,1)=60",
            "town() town() deliver(0,0,1) meet(0,1) deliver(0,0,1) 2*deliver(1,0,1) meet(0,1)=3");
        doc.says("INVALID_ARGUMENT if there is no such town or both are the same",
            "meet(0,1)=INVALID meet(0,0)=INVALID", "town() meet(0,0)=INVALID meet(0,1)=INVALID meet(1,0)=INVALID",
            "5*town() meet(0,0)=INVALID meet(4,4)=INVALID meet(5,5)=INVALID meet(-1,-1)=INVALID count(9)=4 undo()=3 count(0)=4");
    }

    private void hear() {
        doc.under("Promise 7: hear");
        doc.says("Lets a town hear another one, which hears nothing.",
            "town() town() deliver(0,0,1) deliver(1,0,1) deliver(1,0,1) hear(0,1)=2 townOf(1,1)=2 townOf(0,1)=3 townOf(1,0)=2",
            "town() town() 2*deliver(0,0,1) hear(0,1)=0 townOf(1,1)=0 townOf(1,0)=0");
        doc.says("`one`: number of the town that hears", outside("5*town()", "hear(#,0)", 0, 4), "5*town() hear(1,0)=0 hear(4,0)=0");
        doc.says("`other`: number of the other town", outside("5*town()", "hear(0,#)", 0, 4), "5*town() hear(0,1)=0 hear(0,4)=0",
            outside("town() town()", "hear(0,#)", 0, 1));
        doc.says("Returns how many events it knows more of then",
            "town() town() hear(0,1)=0", "town() town() deliver(1,0,1) hear(0,1)=1 hear(0,1)=0",
            "town() town() 60*deliver(1,0,1) hear(0,1)=60 hear(0,1)=0",
            "town() town() deliver(0,0,1) meet(0,1) deliver(0,0,1) 2*deliver(1,0,1) hear(0,1)=2 hear(1,0)=1");
        doc.says("INVALID_ARGUMENT if there is no such town or both are the same",
            "hear(0,1)=INVALID hear(0,0)=INVALID", "town() hear(0,0)=INVALID hear(0,1)=INVALID hear(1,0)=INVALID",
            "5*town() hear(0,0)=INVALID hear(4,4)=INVALID hear(5,5)=INVALID hear(-1,-1)=INVALID count(9)=4 undo()=3 count(0)=4");
    }

    private void rule() {
        doc.under("Promise 8: rule");
        doc.says("`rule`: 0 to 2", range("", "rule(#)", 0, 2));
        doc.says("Returns what it was", "rule(0)=0 rule(2)=0 rule(2)=2 rule(1)=2 rule(0)=1 rule(0)=0",
            "rule(2) undo() rule(1)=0 count(5)=1");
        doc.says("INVALID_ARGUMENT if rule is out of range",
            "rule(2)=0 rule(3)=INVALID rule(-1)=INVALID count(5)=2 count(9)=1", outside("rule(1)", "rule(#)", 0, 2));
    }

    private void eventOfKinds() {
        doc.under("Promise 9: eventOf");
        doc.says("0: 0 a delivery, 1 an order, 2 a cancellation", THREE_KINDS + " eventOf(0,0)=0 eventOf(1,0)=1 eventOf(2,0)=2");
        doc.says("1: the town in which it was made", THREE_KINDS + " eventOf(0,1)=2 eventOf(1,1)=1 eventOf(2,1)=0",
            "5*town() deliver(4,0,1) hear(0,4) eventOf(0,1)=4");
        doc.says("2: its clock", THREE_KINDS + " eventOf(0,2)=1 eventOf(1,2)=2 eventOf(2,2)=3",
            "town() 60*deliver(0,0,1) eventOf(0,2)=1 eventOf(59,2)=60");
        doc.says("3: the good (of a cancellation that of its order)", THREE_KINDS + " eventOf(0,3)=4 eventOf(1,3)=4 eventOf(2,3)=4",
            "town() deliver(0,5,1) order(0,0,5,1) order(0,0,0,1) cancel(0,1) cancel(0,2) eventOf(0,3)=5 eventOf(3,3)=5 eventOf(4,3)=0");
        doc.says("4: the pieces (likewise)", THREE_KINDS + " eventOf(0,4)=20 eventOf(1,4)=15 eventOf(2,4)=15",
            "town() deliver(0,0,99) order(0,0,0,1) order(0,0,0,99) cancel(0,1) cancel(0,2) eventOf(0,4)=99 eventOf(1,4)=1"
                + " eventOf(3,4)=1 eventOf(4,4)=99");
        doc.says("5: the person of an order, or of the order that is cancelled",
            THREE_KINDS + " eventOf(0,5)=NOT_FOUND eventOf(1,5)=7 eventOf(2,5)=7",
            "town() order(0,0,0,1) order(0,9,0,1) cancel(0,0) cancel(0,1) eventOf(0,5)=0 eventOf(1,5)=9 eventOf(2,5)=0 eventOf(3,5)=9");
        doc.says("6: the order that is cancelled",
            THREE_KINDS + " eventOf(0,6)=NOT_FOUND eventOf(1,6)=NOT_FOUND eventOf(2,6)=1",
            "town() order(0,0,0,1) 57*deliver(0,0,1) order(0,0,0,1)=58 cancel(0,58)=59 eventOf(59,6)=58",
            "town() order(0,0,0,1) cancel(0,0) eventOf(1,6)=0");
    }

    private void eventOfSets() {
        doc.under("Promise 9: eventOf");
        doc.says("7: the set of towns that know it", THREE_KINDS + " eventOf(0,7)=7 eventOf(1,7)=3 eventOf(2,7)=1",
            "5*town() 59*deliver(0,0,1) deliver(4,0,1)=59 eventOf(59,7)=16 hear(0,4) eventOf(59,7)=17 hear(1,0) hear(2,0) hear(3,0)"
                + " eventOf(59,7)=31 eventOf(58,7)=15",
            "town() deliver(0,0,1) town() eventOf(0,7)=1");
        doc.says("8: the set of towns that made an apology for it", THREE_KINDS + " eventOf(0,8)=0 eventOf(1,8)=0 eventOf(2,8)=0",
            "5*town() deliver(0,0,10) order(0,1,0,8)=1 order(0,2,0,3)=2 hear(1,0) hear(2,0) hear(3,0) hear(4,0) rule(1)"
                + " eventOf(1,8)=31 eventOf(2,8)=0 eventOf(0,8)=0 rule(0) eventOf(2,8)=31 eventOf(1,8)=31",
            EIGHT_AND_THREE + " rule(1) cancel(0,1) eventOf(1,8)=3 eventOf(3,8)=0",
            "town() deliver(0,0,10) 57*deliver(0,1,1) order(0,1,0,8)=58 order(0,2,0,3)=59 rule(1) eventOf(58,8)=1 rule(0)"
                + " eventOf(59,8)=1");
    }

    private void eventOfErrors() {
        doc.under("Promise 9: eventOf");
        doc.says("`event`: number of the event", range(THREE_KINDS, "eventOf(#,0)", 0, 2));
        doc.says("`event`: number of the event", range(SIXTY, "eventOf(#,7)", 0, 59));
        doc.says("`what`: 0: 0 a delivery", range(THREE_KINDS, "eventOf(2,#)", 0, 8));
        doc.says(OUT_OF_RANGE, "eventOf(0,0)=INVALID", "town() eventOf(0,0)=INVALID", THREE_KINDS + " eventOf(3,9)=INVALID");
        doc.says("NOT_FOUND for 5 and 6 if it has no such thing",
            "town() deliver(0,0,1) eventOf(0,5)=NOT_FOUND eventOf(0,6)=NOT_FOUND eventOf(0,4)=1 eventOf(0,7)=1",
            "town() order(0,0,0,1) eventOf(0,5)=0 eventOf(0,6)=NOT_FOUND", "town() order(0,0,0,1) cancel(0,0) eventOf(1,5)=0 eventOf(1,6)=0",
            "town() order(0,3,0,1) cancel(0,0) undo() undo() deliver(0,0,1)=0 deliver(0,0,1)=1 eventOf(0,5)=NOT_FOUND"
                + " eventOf(1,5)=NOT_FOUND eventOf(1,6)=NOT_FOUND");
    }

    private void thinks() {
        doc.under("Promise 10: thinks");
        doc.says("`town`: number of the town", outside("5*town() order(4,0,0,1)", "thinks(#,0)", 0, 4),
            "5*town() order(4,0,0,1) hear(0,4) thinks(0,0)=1 thinks(4,0)=1");
        doc.says("`event`: number of the event", range("town() 60*order(0,0,0,1)", "thinks(0,#)", 0, 59));
        doc.says("Returns 0 accepted, 1 refused, 2 cancelled",
            "town() deliver(0,0,1) order(0,0,0,1)=1 order(0,0,0,1)=2 thinks(0,1)=0 thinks(0,2)=1 cancel(0,1) thinks(0,1)=2"
                + " thinks(0,2)=0",
            "town() deliver(0,0,1) 57*deliver(0,1,1) order(0,0,0,1)=58 order(0,0,0,1)=59 thinks(0,58)=0 thinks(0,59)=1");
        doc.says(OUT_OF_RANGE, "thinks(0,0)=INVALID", "town() thinks(0,0)=INVALID", "town() order(0,0,0,1) thinks(1,1)=INVALID");
        doc.says("NOT_POSSIBLE if the event is no order",
            "town() deliver(0,0,1) thinks(0,0)=NOT_POSSIBLE", "town() order(0,0,0,1) cancel(0,0) thinks(0,1)=NOT_POSSIBLE",
            "town() town() deliver(0,0,1) thinks(1,0)=NOT_POSSIBLE");
        doc.says("NOT_FOUND if the town does not know it",
            "town() town() order(0,0,0,1) thinks(1,0)=NOT_FOUND cancel(0,0) thinks(1,0)=NOT_FOUND hear(1,0) thinks(1,0)=2");
    }

    private void townOf() {
        doc.under("Promise 11: townOf");
        doc.says("`town`: number of the town", range("town()", "townOf(#,0)", 0, 0));
        doc.says("`town`: number of the town", range("5*town()", "townOf(#,7)", 0, 4));
        doc.says("`what`: 0: its clock", range("town()", "townOf(0,#)", 0, 7));
        doc.says("0: its clock", "town() townOf(0,0)=0 60*deliver(0,0,1) townOf(0,0)=60",
            "town() town() 3*deliver(0,0,1) hear(1,0) townOf(1,0)=3");
        doc.says("1: the events that it knows", "town() townOf(0,1)=0 60*deliver(0,0,1) townOf(0,1)=60");
        doc.says("2: the orders that it accepts", "town() deliver(0,0,59) 59*order(0,0,0,1) townOf(0,2)=59 townOf(0,3)=0",
            "5*town() deliver(4,0,1) order(4,0,0,1) townOf(4,2)=1 townOf(0,2)=0 townOf(3,2)=0",
            "town() order(0,0,0,1) townOf(0,2)=0");
        doc.says("3: those that it refuses", "town() 60*order(0,0,0,1) townOf(0,3)=60 townOf(0,2)=0 townOf(0,4)=0",
            "5*town() order(4,0,0,1) townOf(4,3)=1 townOf(0,3)=0 townOf(3,3)=0");
        doc.says("4: those that are cancelled for it",
            "town() town() order(0,0,0,1) hear(1,0) cancel(0,0) townOf(0,4)=1 townOf(1,4)=0 cancel(1,0) townOf(1,4)=1 meet(0,1)"
                + " townOf(0,4)=1 townOf(1,4)=1 townOf(0,3)=0 townOf(0,2)=0");
        doc.says("5: the apologies that it made so far",
            EIGHT_AND_THREE + " townOf(0,5)=0 rule(1) townOf(0,5)=1 townOf(1,5)=1 rule(0) townOf(0,5)=2 cancel(0,1)"
                + " townOf(0,5)=2 undo() undo() townOf(0,5)=1");
        doc.says("6: the events that were made in it",
            "town() town() townOf(0,6)=0 2*deliver(0,0,1) hear(1,0) townOf(0,6)=2 townOf(1,6)=0 deliver(1,0,1) townOf(1,6)=1",
            "5*town() 60*deliver(4,0,1) townOf(4,6)=60 townOf(0,6)=0");
        doc.says(OUT_OF_RANGE, "townOf(0,0)=INVALID", "town() townOf(1,8)=INVALID townOf(0,8)=INVALID townOf(0,-1)=INVALID");
    }

    private void townOfSame() {
        doc.under("Promise 11: townOf");
        doc.says("7: the set of towns that know just the same events, itself included",
            "town() townOf(0,7)=1", "5*town() townOf(0,7)=31 townOf(4,7)=31",
            "5*town() deliver(0,0,1) townOf(0,7)=1 townOf(1,7)=30 hear(4,0) townOf(0,7)=17 townOf(4,7)=17 townOf(2,7)=14",
            // As many, but not the same.
            "town() town() deliver(0,0,1) deliver(1,0,1) townOf(0,7)=1 townOf(1,7)=2 meet(0,1) townOf(0,7)=3");
    }

    private void goodOf() {
        doc.under("Promise 12: goodOf");
        doc.says("`town`: number of the town", range("5*town()", "goodOf(#,0,0)", 0, 4));
        doc.says("`good`: 0 to 5", range("town()", "goodOf(0,#,0)", 0, 5));
        doc.says("`what`: 0: its stock", range("town()", "goodOf(0,0,#)", 0, 3));
        doc.says("0: its stock; 1: how many pieces of it are accepted; 2: how many pieces are left; 3: how many pieces are refused",
            "town() goodOf(0,0,0)=0 goodOf(0,0,1)=0 goodOf(0,0,2)=0 goodOf(0,0,3)=0",
            "town() deliver(0,5,9) goodOf(0,5,0)=9 goodOf(0,5,1)=0 goodOf(0,5,2)=9 goodOf(0,5,3)=0 goodOf(0,4,0)=0",
            "town() deliver(0,5,9) order(0,0,5,9) goodOf(0,5,0)=9 goodOf(0,5,1)=9 goodOf(0,5,2)=0 goodOf(0,5,3)=0",
            "town() deliver(0,5,9) order(0,0,5,10) goodOf(0,5,0)=9 goodOf(0,5,1)=0 goodOf(0,5,2)=9 goodOf(0,5,3)=10",
            "town() deliver(0,5,9) order(0,0,5,9) cancel(0,1) goodOf(0,5,1)=0 goodOf(0,5,2)=9 goodOf(0,5,3)=0",
            "town() order(0,0,5,9) cancel(0,0) goodOf(0,5,3)=0", "town() 60*order(0,0,0,99) goodOf(0,0,3)=5940 goodOf(0,0,2)=0",
            "town() 60*deliver(0,0,99) goodOf(0,0,0)=5940 goodOf(0,0,2)=5940",
            "town() 30*deliver(0,0,99) 30*order(0,0,0,99) goodOf(0,0,1)=2970 goodOf(0,0,2)=0 goodOf(0,0,3)=0",
            "town() town() deliver(0,0,9) order(1,0,0,3) goodOf(1,0,0)=0 goodOf(1,0,3)=3 goodOf(0,0,3)=0",
            "5*town() deliver(4,5,9) order(4,0,5,3) goodOf(4,5,1)=3 goodOf(4,5,2)=6 goodOf(0,5,1)=0 goodOf(3,5,2)=0");
        doc.says(OUT_OF_RANGE, "goodOf(0,0,0)=INVALID", "town() goodOf(1,6,4)=INVALID goodOf(0,0,4)=INVALID goodOf(0,6,0)=INVALID");
    }

    private void lookedAt() {
        doc.under("Promise 13: lookedAt");
        doc.says("`town`: number of the town", outside("5*town() order(4,0,0,1)", "lookedAt(#,0,0)", 0, 4),
            "5*town() order(4,0,0,1) lookedAt(4,0,0)=0 lookedAt(0,0,0)=NOT_FOUND hear(0,4) lookedAt(0,0,0)=0");
        doc.says("`good`: 0 to 5", outside("town()", "lookedAt(0,#,0)", 0, 5),
            "town() order(0,0,0,1) order(0,0,5,1) lookedAt(0,0,0)=0 lookedAt(0,5,0)=1 lookedAt(0,1,0)=NOT_FOUND");
        doc.says("`index`: 0 for the first one, and so on",
            "town() 60*order(0,0,0,1) lookedAt(0,0,0)=0 lookedAt(0,0,1)=1 lookedAt(0,0,59)=59 lookedAt(0,0,60)=NOT_FOUND",
            "town() 3*order(0,0,0,1) cancel(0,0) lookedAt(0,0,0)=1 lookedAt(0,0,1)=2 lookedAt(0,0,2)=NOT_FOUND",
            "town() deliver(0,0,1) 2*order(0,0,0,1) lookedAt(0,0,0)=1 lookedAt(0,0,1)=2 lookedAt(0,0,2)=NOT_FOUND");
        doc.says("INVALID_ARGUMENT if an argument is out of range or negative",
            "town() order(0,0,0,1) lookedAt(0,0,-1)=INVALID lookedAt(0,0,MIN)=INVALID lookedAt(0,0,0)=0",
            "lookedAt(0,0,0)=INVALID", "town() lookedAt(1,6,-1)=INVALID lookedAt(0,6,MAX)=INVALID lookedAt(1,0,MAX)=INVALID");
        doc.says("NOT_FOUND if there are not so many",
            "town() lookedAt(0,0,0)=NOT_FOUND", "town() order(0,0,0,1) lookedAt(0,0,1)=NOT_FOUND lookedAt(0,0,MAX)=NOT_FOUND",
            "town() order(0,0,0,1) cancel(0,0) lookedAt(0,0,0)=NOT_FOUND", "town() order(0,0,0,1) lookedAt(0,1,0)=NOT_FOUND",
            "town() order(0,0,0,1) lookedAt(0,0,64)=NOT_FOUND lookedAt(0,0,256)=NOT_FOUND lookedAt(0,0,65536)=NOT_FOUND");
    }

    private void personOf() {
        doc.under("Promise 14: personOf");
        doc.says("`town`: number of the town", range("5*town()", "personOf(#,0,0)", 0, 4));
        doc.says("`person`: 0 to 9", range("town()", "personOf(0,#,0)", 0, 9));
        doc.says("`what`: 0: orders that the town knows", range("town()", "personOf(0,0,#)", 0, 3));
        doc.says("0: orders that the town knows, cancelled ones too",
            "town() town() order(0,0,0,1) order(0,9,0,1) cancel(0,0) personOf(0,0,0)=1 personOf(0,9,0)=1 personOf(0,1,0)=0"
                + " personOf(1,0,0)=0 hear(1,0) personOf(1,0,0)=1",
            "town() 60*order(0,9,0,1) personOf(0,9,0)=60");
        doc.says("1: accepted ones; 2: pieces that are accepted, of all goods",
            "town() deliver(0,0,9) deliver(0,5,9) order(0,9,0,9)=2 order(0,9,5,8)=3 order(0,9,5,2)=4 order(0,0,5,1)=5"
                + " personOf(0,9,1)=2 personOf(0,9,2)=17 personOf(0,0,1)=1 personOf(0,0,2)=1 cancel(0,2) personOf(0,9,1)=1"
                + " personOf(0,9,2)=8 personOf(0,9,0)=3",
            "town() order(0,0,0,1) personOf(0,0,1)=0 personOf(0,0,2)=0",
            "5*town() deliver(4,5,9) order(4,9,5,3) personOf(4,9,1)=1 personOf(4,9,2)=3 personOf(0,9,1)=0 personOf(3,9,2)=0",
            "town() 30*deliver(0,0,99) 30*order(0,0,0,99) personOf(0,0,1)=30 personOf(0,0,2)=2970");
        doc.says("3: apologies of all towns for orders of the person (whether the town knows them or not), each one counted",
            EIGHT_AND_THREE + " town() personOf(2,1,3)=0 rule(1) personOf(0,1,3)=2 personOf(2,1,3)=2 personOf(2,2,3)=0 rule(0)"
                + " personOf(2,2,3)=2 personOf(2,0,3)=0 cancel(0,1) personOf(0,1,3)=2",
            "town() rule(1) deliver(0,0,6) 3*order(0,9,0,2) 3*order(0,0,0,1) personOf(0,9,3)=2");
        doc.says(OUT_OF_RANGE, "personOf(0,0,0)=INVALID", "town() personOf(1,10,4)=INVALID personOf(0,0,4)=INVALID");
    }

    private void unheard() {
        doc.under("Promise 15: unheard");
        doc.says("`one`: number of the town that knows them", range("5*town()", "unheard(#,0)", 0, 4));
        doc.says("`other`: number of the other town", range("5*town()", "unheard(0,#)", 0, 4));
        doc.says("Counts the events that a town knows and another one does not.",
            "town() town() unheard(0,1)=0 deliver(0,0,1) unheard(0,1)=1 unheard(1,0)=0 hear(1,0) unheard(0,1)=0",
            "town() town() 60*deliver(0,0,1) unheard(0,1)=60 unheard(1,0)=0", "town() deliver(0,0,1) unheard(0,0)=0",
            "town() town() 2*deliver(0,0,1) 3*deliver(1,0,1) unheard(0,1)=2 unheard(1,0)=3");
        doc.says("INVALID_ARGUMENT if there is no such town", "unheard(0,0)=INVALID",
            "town() unheard(1,1)=INVALID unheard(-1,-1)=INVALID unheard(0,1)=INVALID unheard(1,0)=INVALID");
    }

    private void count() {
        doc.under("Promise 16: count");
        doc.says("`what`: 0: towns", range("", "count(#)", 0, 10));
        doc.says("0: towns; 1: events; 2: deliveries; 3: orders; 4: cancellations; 5: the rule",
            "5*town() 20*deliver(4,0,1) 30*order(0,0,0,1) cancel(0,20) cancel(0,21) cancel(0,49) rule(2) count(0)=5 count(1)=53"
                + " count(2)=20 count(3)=30 count(4)=3 count(5)=2",
            "town() 60*deliver(0,0,1) count(1)=60 count(2)=60 count(3)=0 count(4)=0",
            "town() 60*order(0,0,0,1) count(1)=60 count(2)=0 count(3)=60 count(4)=0");
        doc.says("6: apologies so far, of all towns",
            EIGHT_AND_THREE + " count(6)=0 rule(1) count(6)=2 rule(0) count(6)=4 rule(1) count(6)=4 undo() undo() count(6)=2");
        doc.says("9: states in the history; 10: the length of the text",
            "count(9)=0 count(10)=0 80*type(32) count(9)=0 count(10)=80 4*rule(0) count(9)=4 rule(0) count(9)=4 undo() count(9)=3"
                + " count(10)=80");
        doc.says(WHAT_OUT_OF_RANGE, outside("", "count(#)", 0, 10), outside(SIXTY, "count(#)", 0, 10));
    }

    private void countOfAgreement() {
        doc.under("Promise 16: count");
        doc.says("7: events that all towns know",
            "count(7)=0", "town() count(7)=0 deliver(0,0,1) count(7)=1 town() count(7)=0 hear(1,0) count(7)=1",
            "town() 60*deliver(0,0,1) count(7)=60",
            "town() town() deliver(1,0,1) count(7)=0 deliver(0,0,1) count(7)=0 hear(0,1) count(7)=1",
            "5*town() deliver(0,0,1) hear(1,0) hear(2,0) hear(3,0) count(7)=0 hear(4,0) count(7)=1 deliver(4,0,1) count(7)=1");
        doc.says("8: 1 if all towns know the same events, otherwise 0",
            "count(8)=1", "town() count(8)=1 deliver(0,0,1) count(8)=1 town() count(8)=0 hear(1,0) count(8)=1",
            "town() town() deliver(0,0,1) deliver(1,0,1) count(8)=0 meet(0,1) count(8)=1", "5*town() count(8)=1",
            "5*town() deliver(4,0,1) hear(0,4) hear(1,4) hear(2,4) count(8)=0 hear(3,4) count(8)=1");
    }

    private void would() {
        doc.under("Promise 17: would");
        doc.says("`one`: number of a town", outside("5*town()", "would(#,0,0)", 0, 4), "5*town() would(1,0,0)=0 would(4,0,0)=0");
        doc.says("`other`: number of another town", outside("5*town()", "would(0,#,0)", 0, 4), "5*town() would(0,1,0)=0 would(0,4,0)=0");
        doc.says("`what`: 0: how many apologies", range("town() town()", "would(0,1,#)", 0, 2));
        doc.says("0: how many apologies would be made by it",
            "town() town() would(0,1,0)=0",
            "town() town() deliver(0,0,10) meet(0,1) order(0,1,0,6) order(1,2,0,6) would(0,1,0)=1 would(1,0,0)=1 count(6)=0 meet(0,1)"
                + " count(6)=1 would(0,1,0)=0",
            // For this order the town made an apology already.
            "town() town() rule(1) deliver(0,0,8) order(0,1,0,8)=1 hear(1,0) order(1,2,0,1)=2 deliver(1,0,1)=3 thinks(1,1)=0"
                + " order(0,3,0,1)=4 count(6)=2 would(0,1,0)=0 meet(0,1) thinks(1,1)=1 count(6)=2",
            "town() town() rule(1) deliver(0,0,8) order(0,1,0,8)=1 hear(1,0) order(1,2,0,1)=2 count(6)=1 would(0,1,0)=1 undo()"
                + " would(0,1,0)=0");
        doc.says("1: how many events both together would know more of",
            "town() town() would(0,1,1)=0 deliver(0,0,1) would(0,1,1)=1 2*deliver(1,0,1) would(0,1,1)=3 would(1,0,1)=3 meet(0,1)"
                + " would(0,1,1)=0",
            "town() town() 30*deliver(0,0,1) 30*deliver(1,0,1) would(0,1,1)=60 townOf(0,1)=30");
        doc.says("INVALID_ARGUMENT if an argument is out of range or both towns are the same",
            "would(0,1,0)=INVALID", "town() would(0,0,0)=INVALID would(0,1,0)=INVALID would(1,0,0)=INVALID",
            "5*town() would(4,4,0)=INVALID would(0,0,3)=INVALID would(0,1,3)=INVALID would(5,5,0)=INVALID would(-1,-1,0)=INVALID");
    }

    private void wouldGoods() {
        doc.under("Promise 17: would");
        doc.says("2: the set of goods of which one of both would accept or refuse other orders than now",
            "town() town() would(0,1,2)=0", "town() town() deliver(0,0,9) would(0,1,2)=0",
            "town() town() deliver(0,5,9) order(1,0,5,9) would(0,1,2)=32 would(1,0,2)=32 meet(0,1) would(0,1,2)=0",
            "town() town() order(0,0,0,1) order(0,0,5,1) order(1,0,2,1) would(0,1,2)=37",
            "town() town() order(0,0,0,1) meet(0,1) order(0,0,5,1) would(0,1,2)=32",
            "3*town() order(2,0,3,1) would(0,1,2)=0 would(0,2,2)=8",
            // The thoughts of the first town, of the last one, and asked twice.
            "5*town() deliver(0,0,9) order(0,0,0,9) would(0,4,2)=1 would(0,4,2)=1 would(4,0,2)=1 would(4,3,2)=0",
            "5*town() deliver(4,5,9) order(4,0,5,9) order(4,0,5,1) would(0,4,2)=32 would(0,4,2)=32 would(3,4,2)=32 would(0,3,2)=0",
            "5*town() deliver(4,5,9) order(4,0,5,9) hear(0,4) would(0,4,2)=0 would(3,4,2)=32 would(4,0,2)=0",
            "5*town() deliver(0,0,9) order(0,0,0,9) hear(3,0) hear(4,0) would(4,3,2)=0 would(3,4,2)=0",
            "5*town() order(0,0,0,9) hear(3,0) hear(4,0) would(4,3,2)=0 would(3,4,2)=0",
            "5*town() order(4,0,0,9) hear(3,4) would(4,3,2)=0 would(3,4,2)=0");
        doc.says("(also by one that it does not know now, or that would be cancelled)",
            "town() town() order(0,0,3,1) would(0,1,2)=8", "town() town() order(0,0,3,1) hear(1,0) cancel(0,0) would(0,1,2)=8",
            "town() town() deliver(0,3,1) order(0,0,3,1) hear(1,0) cancel(0,1) would(0,1,2)=8 would(1,0,2)=8 would(0,1,0)=0",
            "town() town() order(0,0,3,1) hear(1,0) cancel(0,0) cancel(1,0) would(0,1,2)=0 would(0,1,1)=2");
    }

    private void wouldRule() {
        doc.under("Promise 18: wouldRule");
        doc.says("`rule`: 0 to 2", range("", "wouldRule(#)", 0, 2));
        doc.says("Tells how many apologies a rule would bring if it was set now.",
            "wouldRule(0)=0 wouldRule(1)=0 wouldRule(2)=0",
            EIGHT_AND_THREE + " wouldRule(0)=0 wouldRule(1)=2 wouldRule(2)=0 wouldRule(1)=2 wouldRule(1)=2 count(5)=0 count(6)=0 rule(1) count(6)=2 wouldRule(1)=0"
                + " wouldRule(0)=2 rule(0) wouldRule(1)=0",
            "town() rule(1) deliver(0,0,6) 3*order(0,1,0,2) rule(2) order(0,2,0,5)=4 wouldRule(0)=0");
        doc.says("INVALID_ARGUMENT if rule is out of range", outside(EIGHT_AND_THREE, "wouldRule(#)", 0, 2));
    }

    private void kindest() {
        doc.under("Promise 19: kindest");
        doc.says("`what`: 0: the rule; 1: how many persons", range("", "kindest(#)", 0, 1));
        doc.says("by which, with all events known, the most persons have an accepted order",
            "kindest(1)=0", "town() order(0,0,0,1) kindest(0)=0 kindest(1)=0",
            "town() town() deliver(0,0,1) order(1,9,0,1) kindest(0)=0 kindest(1)=1",
            "town() deliver(0,0,9) order(0,1,0,8) order(0,2,0,5) order(0,3,0,4) kindest(0)=1 kindest(1)=2 count(5)=0",
            "town() deliver(0,0,9) 3*order(0,1,0,3) order(0,2,0,4) kindest(0)=2 kindest(1)=2",
            "town() deliver(0,0,10) order(0,0,0,1) order(0,1,0,1) order(0,2,0,1) order(0,3,0,1) order(0,4,0,1) order(0,5,0,1)"
                + " order(0,6,0,1) order(0,7,0,1) order(0,8,0,1) order(0,9,0,1) kindest(1)=10",
            "town() deliver(0,0,9) order(0,0,0,1) deliver(0,5,9) order(0,0,5,1) kindest(1)=1",
            "town() town() deliver(0,0,1) order(0,0,0,1)=1 hear(1,0) cancel(1,1) kindest(1)=0");
        doc.says("of several the lowest",
            "kindest(0)=0 rule(2) kindest(0)=0", "town() deliver(0,0,1) order(0,0,0,1) rule(1) kindest(0)=0",
            // The rules 1 and 2 are as kind, the rule 0 is less so.
            "town() deliver(0,0,9) order(0,1,0,5) order(0,1,0,4) order(0,2,0,4) kindest(0)=1 kindest(1)=2");
        doc.says(WHAT_OUT_OF_RANGE, outside(SIXTY, "kindest(#)", 0, 1));
    }

    private void rounds() {
        doc.under("Promise 20: rounds");
        doc.says("In a round the towns 0 and 1 meet, then 1 and 2, and so on, up to the last one.",
            "town() town() deliver(0,0,1) rounds()=1", "town() town() deliver(1,0,1) rounds()=1",
            "5*town() deliver(0,0,1) rounds()=1", "5*town() deliver(1,0,1) rounds()=1", "5*town() deliver(2,0,1) rounds()=2",
            "5*town() deliver(3,0,1) rounds()=3", "5*town() deliver(4,0,1) rounds()=4 townOf(0,1)=0 townOf(3,0)=0",
            "5*town() deliver(0,0,1) deliver(4,0,1) rounds()=4", "5*town() deliver(4,0,1) hear(0,4) rounds()=1");
        doc.says("Returns the rounds, 0 if they do so now.",
            "rounds()=0", "town() rounds()=0 deliver(0,0,1) rounds()=0", "5*town() rounds()=0",
            "town() town() deliver(0,0,1) meet(0,1) rounds()=0 deliver(1,0,1) rounds()=1");
    }

    private void undo() {
        doc.under("Promise 21: undo");
        doc.says("Restores the latest state of the history, which is removed from it.",
            "rule(1) rule(2) undo() count(5)=1 undo() count(5)=0 count(9)=0",
            "rule(1) undo() rule(2) undo() count(5)=0 undo()=NOT_POSSIBLE");
        doc.says("Returns the number of states that are left in the history",
            "rule(1) undo()=0", "4*rule(1) undo()=3 undo()=2 undo()=1 undo()=0", "9*rule(1) undo()=3 rule(1) undo()=3 undo()=2");
        doc.says("NOT_POSSIBLE if it is empty",
            "undo()=NOT_POSSIBLE count(9)=0", "town() undo()=0 undo()=NOT_POSSIBLE undo()=NOT_POSSIBLE count(0)=0 town()=0",
            "5*rule(1) 4*undo() undo()=NOT_POSSIBLE count(5)=1");
    }

    private void type() {
        doc.under("Promise 22: type");
        doc.says("`character`: 32 to 126", range("", "type(#)", 32, 126));
        doc.says("`character`: 32 to 126", "type(31)=INVALID type(0)=INVALID type(10)=INVALID type(127)=INVALID type(128)=INVALID"
            + " type(356)=INVALID type(65636)=INVALID count(10)=0");
        doc.says("INVALID_ARGUMENT if character is out of range", outside("", "type(#)", 32, 126),
            "80*type(32) type(31)=INVALID type(127)=INVALID type(MIN)=INVALID type(MAX)=INVALID count(10)=80",
            "'r0;' type(31)=INVALID type(127)=INVALID count(10)=3 fault(0)=NOT_FOUND");
        doc.says("Returns the length of the text", "type(32)=1 type(126)=2 77*type(32) type(32)=80");
        doc.says("LIMIT_REACHED if it has 80 characters",
            "80*type(32) type(32)=LIMIT type(32)=LIMIT count(10)=80 clearText()=80 type(32)=1", "79*type(32) type(32)=80");
    }

    private void clearText() {
        doc.under("Promise 23: clearText");
        doc.says("Empties the text.", "80*type(100) clearText() count(10)=0 fault(0)=NOT_FOUND play()=0",
            "'d0,0,9;' clearText() type(114)=1 fault(1)=1");
        doc.says("Returns the length it had.", "clearText()=0", "type(32) clearText()=1 clearText()=0", "80*type(32) clearText()=80");
    }

    private void fault() {
        doc.under("Promise 24: fault");
        doc.says("`what`: 0: its position; 1: its reason", range("type(120)", "fault(#)", 0, 1));
        doc.says(WHAT_OUT_OF_RANGE, "fault(2)=INVALID fault(-1)=INVALID", outside("'r0;'", "fault(#)", 0, 1));
        doc.says("NOT_FOUND if the text has no fault (also if it is empty)",
            "fault(0)=NOT_FOUND fault(1)=NOT_FOUND", "'r0;' fault(0)=NOT_FOUND fault(1)=NOT_FOUND",
            "type(120) clearText() fault(0)=NOT_FOUND", "type(120) fault(1)=1 clearText() fault(1)=NOT_FOUND play()=0",
            "type(120) play()=NOT_POSSIBLE clearText() play()=0 fault(0)=NOT_FOUND", "town() town() 16*'m0,1;' fault(0)=NOT_FOUND fault(1)=NOT_FOUND count(9)=2");
    }

    private void play() {
        doc.under("Promise 25: play");
        doc.says("Does all commands of the text, which stays.",
            "'r1;r2;' play()=2 count(10)=6 count(5)=2 play()=2", "town() 10*'d0,0,9;' play()=10 count(1)=10 count(10)=70",
            "town() 59*deliver(0,0,1) 'd0,0,1;' play()=1 count(1)=60 play()=NOT_POSSIBLE count(1)=60 count(10)=7");
        doc.says("They are one change, also if there are none.",
            "play()=0 count(9)=1 undo()=0", "rule(1) play()=0 count(9)=2 undo()=1 count(5)=1",
            "5*play() count(9)=4", "town() 'd0,0,1;d0,0,1;' play()=2 count(9)=2 undo()=1 count(1)=0");
        doc.says("Returns how many there are in it", "play()=0", "'r0;' play()=1", "26*'r0;' play()=26");
        doc.says("NOT_POSSIBLE if it has a fault",
            "type(120) play()=NOT_POSSIBLE count(9)=0", "'r1;r3;' play()=NOT_POSSIBLE count(5)=0 count(9)=0",
            "'r1;r2' play()=NOT_POSSIBLE count(5)=0", "town() deliver(0,0,1) 'd0,0,1;c0,0;' play()=NOT_POSSIBLE count(1)=1 townOf(0,0)=1",
            "26*'r1;' type(59)=79 play()=NOT_POSSIBLE count(5)=0");
    }
}
