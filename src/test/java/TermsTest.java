import java.io.IOException;

/** Each sentence of "What it is" and of "Terms" that names a boundary, with runs that show it. */
public final class TermsTest {
    private static final Due DUE = new Due();
    private static final String SIXTY = "town() order(0,3,2,1) 59*deliver(0,0,1)";

    private final Sentences doc;

    private TermsTest(String document) throws IOException {
        doc = new Sentences(DUE, document);
    }

    public static void main(String[] args) throws IOException {
        TermsTest test = new TermsTest(args[1]);
        test.whatItIs();
        test.constants();
        test.sets();
        test.mostTowns();
        test.mostEvents();
        test.makingAnEvent();
        test.goodsAndPersons();
        test.hearing();
        test.meeting();
        test.whatATownKnowsAlone();
        test.acceptance();
        test.ruleEarliest();
        test.ruleFewestPieces();
        test.ruleFewestGiven();
        test.thinkingAnew();
        test.apologies();
        test.onceForEachOrder();
        test.fullText();
        test.formsOfCommands();
        test.digits();
        test.positionOfTheFault();
        test.reasonOfTheForm();
        test.reasonOfTheRange();
        test.reasonOtherwise();
        test.thinkingBehindCommands();
        test.changes();
        test.history();
        test.whatAChangeRecords();
        test.orderOfErrors();
        test.noSuchTown();
        test.noSuchEvent();
        DUE.end();
    }

    private void whatItIs() {
        doc.under("What it is");
        doc.says("An object is used for at most 512 calls after it has been made",
            "5*town() 60*order(4,9,5,99) hear(0,4)=60 445*hear(0,4)=0 lookedAt(0,5,59)=59",
            "5*town() 506*town()=LIMIT count(0)=5",
            "511*rule(2) undo()=3",
            "511*play()=0 count(9)=4",
            "type(32)=1 clearText()=1 ".repeat(256));
    }

    private void constants() {
        doc.under("Changes and errors");
        doc.says("`INVALID_ARGUMENT = -1`", "rule(3)=-1");
        doc.says("`NOT_POSSIBLE = -2`", "undo()=-2");
        doc.says("`LIMIT_REACHED = -3`", "5*town() town()=-3");
        doc.says("`NOT_FOUND = -4`", "fault(0)=-4");
        DUE.is("INVALID_ARGUMENT", KinderTowns.INVALID_ARGUMENT, -1);
        DUE.is("NOT_POSSIBLE", KinderTowns.NOT_POSSIBLE, -2);
        DUE.is("LIMIT_REACHED", KinderTowns.LIMIT_REACHED, -3);
        DUE.is("NOT_FOUND", KinderTowns.NOT_FOUND, -4);
    }

    private void sets() {
        doc.under("Terms");
        doc.says("Sets are told as bits: bit k is for number k.",
            "5*town() deliver(0,0,1) eventOf(0,7)=1",
            "5*town() deliver(4,0,1) eventOf(0,7)=16",
            "5*town() townOf(0,7)=31 deliver(0,0,1) townOf(0,7)=1 townOf(4,7)=30",
            "5*town() order(4,0,0,1) would(4,3,2)=1",
            "5*town() order(4,0,5,1) would(4,3,2)=32",
            "5*town() order(4,0,0,1) order(4,0,1,1) order(4,0,2,1) order(4,0,3,1) order(4,0,4,1) order(4,0,5,1)"
                + " would(4,3,2)=63",
            "5*town() rule(1) deliver(4,5,9) order(4,9,5,9)=1 order(4,8,5,1) eventOf(1,8)=16");
    }

    private void mostTowns() {
        doc.under("Towns and events");
        doc.says("There are at most 5 towns, numbered from 0",
            "town()=0 town()=1 town()=2 town()=3 town()=4 town()=LIMIT count(0)=5",
            "4*town() deliver(4,0,1)=INVALID town()=4 deliver(4,0,1)=0 deliver(5,0,1)=INVALID",
            "5*town() deliver(0,0,1)=0 deliver(-1,0,1)=INVALID",
            "5*town() town()=LIMIT undo()=3 town()=4 town()=LIMIT");
        doc.says("each has a clock, 0 at first, and knows some events, none at first",
            "town() townOf(0,0)=0 townOf(0,1)=0",
            "5*town() townOf(4,0)=0 townOf(4,1)=0",
            "town() 3*deliver(0,0,1) town()=1 townOf(1,0)=0 townOf(1,1)=0 unheard(0,1)=3",
            "town() town() deliver(1,0,9) order(1,0,0,9) undo() undo() undo()=1 town()=1 townOf(1,0)=0 townOf(1,1)=0"
                + " townOf(1,2)=0 goodOf(1,0,0)=0");
    }

    private void mostEvents() {
        doc.under("Towns and events");
        doc.says("There are at most 60 events, numbered from 0 in the order in which they were made.",
            "town() town() deliver(0,0,1)=0 deliver(1,0,1)=1 order(0,0,0,1)=2 cancel(0,2)=3 order(1,0,0,1)=4",
            SIXTY + " count(1)=60 deliver(0,0,1)=LIMIT order(0,0,0,1)=LIMIT cancel(0,0)=LIMIT count(1)=60",
            "town() 59*deliver(0,0,1) order(0,0,0,1)=59 order(0,0,0,1)=LIMIT",
            "town() order(0,0,0,1) 58*deliver(0,0,1) cancel(0,0)=59 deliver(0,0,1)=LIMIT",
            "5*town() 12*deliver(0,0,1) 12*deliver(1,0,1) 12*deliver(2,0,1) 12*deliver(3,0,1) 11*deliver(4,0,1)"
                + " deliver(4,0,1)=59 deliver(4,0,1)=LIMIT deliver(0,0,1)=LIMIT",
            SIXTY + " undo() order(0,0,0,1)=59 eventOf(59,0)=1 order(0,0,0,1)=LIMIT",
            SIXTY + " 'd0,0,1;' fault(1)=3 play()=NOT_POSSIBLE");
    }

    private void makingAnEvent() {
        doc.under("Towns and events");
        doc.says("An event is made in a town, which knows it then",
            "town() town() deliver(1,0,1) eventOf(0,7)=2 order(0,0,0,1) eventOf(1,7)=1 cancel(0,1) eventOf(2,7)=1",
            "5*town() 59*deliver(0,0,1) order(4,0,0,1)=59 eventOf(59,7)=16 townOf(4,1)=1");
        doc.says("the clock of the town becomes greater by 1, and is the clock of the event",
            "town() deliver(0,0,1) townOf(0,0)=1 eventOf(0,2)=1",
            "town() town() deliver(1,0,1) order(1,0,0,1) townOf(1,0)=2 eventOf(1,2)=2 cancel(1,1) townOf(1,0)=3"
                + " eventOf(2,2)=3 townOf(0,0)=0 eventOf(0,2)=1",
            "town() 60*deliver(0,0,1) townOf(0,0)=60 eventOf(59,2)=60 deliver(0,0,1)=LIMIT townOf(0,0)=60",
            "town() town() 59*deliver(0,0,1) hear(1,0) order(1,0,0,1)=59 eventOf(59,2)=60 townOf(1,0)=60 townOf(0,0)=59");
        doc.says("a cancellation of an order that the town knows",
            "town() town() order(0,0,0,1) cancel(1,0)=NOT_POSSIBLE hear(1,0) cancel(1,0)=1");
    }

    private void goodsAndPersons() {
        doc.under("Towns and events");
        doc.says("There are the goods 0 to 5 and the persons 0 to 9.",
            "town() deliver(0,0,1) deliver(0,5,1) deliver(0,-1,1)=INVALID deliver(0,6,1)=INVALID",
            "town() order(0,0,0,1) order(0,9,5,1) order(0,-1,0,1)=INVALID order(0,10,0,1)=INVALID"
                + " order(0,0,-1,1)=INVALID order(0,0,6,1)=INVALID",
            "town() goodOf(0,0,0)=0 goodOf(0,5,0)=0 goodOf(0,-1,0)=INVALID goodOf(0,6,0)=INVALID",
            "town() personOf(0,0,0)=0 personOf(0,9,0)=0 personOf(0,-1,0)=INVALID personOf(0,10,0)=INVALID",
            "town() lookedAt(0,0,0)=NOT_FOUND lookedAt(0,5,0)=NOT_FOUND lookedAt(0,-1,0)=INVALID lookedAt(0,6,0)=INVALID");
    }

    private void hearing() {
        doc.under("Hearing");
        doc.says("When a town hears another one, it knows all events that the other one knows, too",
            "3*town() deliver(0,0,1) hear(1,0)=1 deliver(1,0,1) hear(2,1)=2 eventOf(0,7)=7 eventOf(1,7)=6 townOf(0,1)=1",
            "town() town() hear(0,1)=0 townOf(0,1)=0",
            "town() town() deliver(0,0,1) hear(1,0)=1 hear(1,0)=0 hear(0,1)=0 townOf(1,1)=1",
            "5*town() 60*deliver(4,0,1) hear(0,4)=60 townOf(0,1)=60 eventOf(0,7)=17 eventOf(59,7)=17");
        doc.says("its clock is the greater one of both then",
            "town() town() hear(0,1) townOf(0,0)=0 townOf(1,0)=0",
            "town() town() 2*deliver(0,0,1) hear(1,0) townOf(1,0)=2 townOf(0,0)=2 deliver(1,0,1)=2 eventOf(2,2)=3",
            "town() town() deliver(0,0,1) deliver(1,0,1) hear(1,0) townOf(1,0)=1 townOf(0,0)=1",
            "town() town() 3*deliver(0,0,1) deliver(1,0,1) hear(0,1) townOf(0,0)=3 townOf(1,0)=1",
            "5*town() 60*deliver(4,0,1) hear(0,4) townOf(0,0)=60 hear(0,1) townOf(0,0)=60 townOf(1,0)=0");
    }

    private void meeting() {
        doc.under("Hearing");
        doc.says("When two towns meet, both hear each other (with what they knew ahead).",
            "town() town() meet(0,1)=0 townOf(0,1)=0 townOf(1,1)=0",
            "3*town() deliver(0,0,1) 2*deliver(1,0,1) deliver(2,0,1) meet(0,1)=3 townOf(0,1)=3 townOf(1,1)=3"
                + " townOf(0,0)=2 townOf(1,0)=2 townOf(2,1)=1 townOf(2,0)=1",
            "3*town() deliver(0,0,1) 2*deliver(1,0,1) meet(1,0)=3 townOf(0,0)=2 townOf(1,0)=2 eventOf(0,7)=3 eventOf(2,7)=3",
            "town() town() deliver(0,0,1) meet(0,1)=1 meet(0,1)=0",
            "town() town() 30*deliver(0,0,1) 30*deliver(1,0,1) meet(0,1)=60 townOf(0,1)=60 townOf(1,1)=60 townOf(1,0)=30");
    }

    private void whatATownKnowsAlone() {
        doc.under("What a town thinks");
        doc.says("What a town thinks depends on the events that it knows alone, and on the rule.",
            "town() town() deliver(0,0,5) order(1,0,0,5)=1 thinks(1,1)=1 thinks(0,1)=NOT_FOUND hear(1,0) thinks(1,1)=0",
            "town() town() deliver(0,0,5) order(0,0,0,5)=1 hear(1,0) cancel(0,1) thinks(0,1)=2 thinks(1,1)=0",
            "town() town() deliver(0,0,5) hear(1,0) order(0,0,0,5)=1 order(1,0,0,5)=2 thinks(0,1)=0 thinks(1,2)=0",
            "town() deliver(0,0,5) order(0,0,0,4)=1 order(0,1,0,2)=2 thinks(0,2)=1 rule(1) thinks(0,2)=0 thinks(0,1)=1");
        doc.says("Its stock of a good is the sum of the deliveries.",
            "town() goodOf(0,0,0)=0 goodOf(0,5,0)=0",
            "town() deliver(0,0,1) deliver(0,0,99) deliver(0,5,3) goodOf(0,0,0)=100 goodOf(0,5,0)=3 goodOf(0,1,0)=0",
            "town() 60*deliver(0,5,99) goodOf(0,5,0)=5940 goodOf(0,4,0)=0",
            "town() deliver(0,0,5) order(0,0,0,5) goodOf(0,0,0)=5");
        doc.says("An order is cancelled if a cancellation of it is known.",
            "town() town() order(0,0,0,1) hear(1,0) cancel(0,0) thinks(0,0)=2 thinks(1,0)=1 hear(1,0) thinks(1,0)=2",
            "town() town() order(0,0,0,1) hear(1,0) cancel(0,0)=1 cancel(1,0)=2 meet(0,1) thinks(0,0)=2 townOf(0,4)=1",
            "town() 30*order(0,0,0,1) cancel(0,29)=30 cancel(0,0)=31 thinks(0,29)=2 thinks(0,0)=2 thinks(0,28)=1");
    }

    private void acceptance() {
        doc.under("What a town thinks");
        doc.says("The other orders of a good are looked at one after another, by the rule",
            "town() lookedAt(0,0,0)=NOT_FOUND", "town() order(0,0,0,1) cancel(0,0) lookedAt(0,0,0)=NOT_FOUND townOf(0,2)=0 townOf(0,3)=0",
            "town() order(0,0,0,1) order(0,0,5,1) order(0,0,0,1) lookedAt(0,0,0)=0 lookedAt(0,0,1)=2 lookedAt(0,0,2)=NOT_FOUND"
                + " lookedAt(0,5,0)=1 lookedAt(0,5,1)=NOT_FOUND",
            "town() 60*order(0,0,0,1) lookedAt(0,0,59)=59 lookedAt(0,0,60)=NOT_FOUND");
        doc.says("each is accepted if not more pieces are ordered than are left of the stock then, and otherwise refused",
            "town() deliver(0,0,5) order(0,0,0,5)=1 thinks(0,1)=0 goodOf(0,0,2)=0",
            "town() deliver(0,0,5) order(0,0,0,6)=1 thinks(0,1)=1 goodOf(0,0,2)=5",
            "town() order(0,0,0,1) thinks(0,0)=1",
            "town() deliver(0,1,9) order(0,0,0,1) thinks(0,1)=1",
            "town() deliver(0,0,5) order(0,0,0,6)=1 order(0,0,0,4)=2 order(0,0,0,1)=3 order(0,0,0,1)=4"
                + " thinks(0,1)=1 thinks(0,2)=0 thinks(0,3)=0 thinks(0,4)=1",
            "town() deliver(0,0,99) order(0,0,0,99)=1 order(0,0,0,1)=2 thinks(0,1)=0 thinks(0,2)=1",
            "town() deliver(0,0,98) order(0,0,0,99)=1 thinks(0,1)=1",
            "town() 59*deliver(0,0,1) order(0,0,0,59)=59 thinks(0,59)=0",
            "town() 59*deliver(0,0,1) order(0,0,0,60)=59 thinks(0,59)=1",
            "town() deliver(0,0,5) order(0,0,0,5)=1 order(0,0,0,5)=2 cancel(0,1) thinks(0,2)=0 goodOf(0,0,2)=0");
    }

    private void ruleEarliest() {
        doc.under("What a town thinks");
        doc.says("0: the earliest: the one with the lowest clock",
            "town() town() deliver(0,1,1) order(0,0,0,1)=1 order(1,0,0,1)=2 meet(0,1) lookedAt(0,0,0)=2 lookedAt(0,0,1)=1"
                + " lookedAt(0,0,2)=NOT_FOUND lookedAt(1,0,0)=2 lookedAt(1,0,1)=1",
            "5*town() 58*deliver(0,1,1) order(0,0,0,1)=58 order(4,0,0,1)=59 meet(0,4) lookedAt(0,0,0)=59 lookedAt(0,0,1)=58",
            "5*town() deliver(0,1,1) order(0,0,0,1)=1 order(4,0,0,1)=2 meet(0,4) lookedAt(0,0,0)=2 lookedAt(0,0,1)=1",
            "town() order(0,0,0,9) order(0,0,0,1) order(0,0,0,5) lookedAt(0,0,0)=0 lookedAt(0,0,1)=1 lookedAt(0,0,2)=2");
        doc.says("of several that of the town with the lowest number (in which it was made)",
            "town() town() order(1,0,0,1)=0 order(0,0,0,1)=1 meet(0,1) lookedAt(0,0,0)=1 lookedAt(0,0,1)=0 lookedAt(1,0,0)=1",
            "5*town() order(4,0,0,1)=0 order(3,0,0,1)=1 order(2,0,0,1)=2 order(1,0,0,1)=3 order(0,0,0,1)=4"
                + " hear(4,0) hear(4,1) hear(4,2) hear(4,3) lookedAt(4,0,0)=4 lookedAt(4,0,1)=3 lookedAt(4,0,2)=2"
                + " lookedAt(4,0,3)=1 lookedAt(4,0,4)=0",
            "5*town() order(4,0,0,1)=0 hear(0,4) order(1,0,0,1)=1 meet(0,1) lookedAt(0,0,0)=1 lookedAt(0,0,1)=0");
    }

    private void ruleFewestPieces() {
        doc.under("What a town thinks");
        doc.says("1: the one for the fewest pieces",
            "town() rule(1) order(0,0,0,99)=0 order(0,0,0,1)=1 order(0,0,0,2)=2 lookedAt(0,0,0)=1 lookedAt(0,0,1)=2"
                + " lookedAt(0,0,2)=0 lookedAt(0,0,3)=NOT_FOUND",
            "5*town() rule(1) order(0,0,0,2)=0 hear(4,0) 58*deliver(4,1,1) order(4,0,0,1)=59 eventOf(59,2)=60"
                + " lookedAt(4,0,0)=59 lookedAt(4,0,1)=0",
            "town() rule(1) deliver(0,0,3) order(0,0,0,3)=1 order(0,0,0,2)=2 order(0,0,0,1)=3 thinks(0,1)=1 thinks(0,2)=0"
                + " thinks(0,3)=0");
        doc.says("1: the one for the fewest pieces, of several the earliest",
            "town() town() rule(1) deliver(0,1,1) order(0,0,0,7)=1 order(1,0,0,7)=2 meet(0,1) lookedAt(0,0,0)=2"
                + " lookedAt(0,0,1)=1",
            "town() town() rule(1) order(1,0,0,7)=0 order(0,0,0,7)=1 meet(0,1) lookedAt(1,0,0)=1 lookedAt(1,0,1)=0",
            "town() rule(1) 60*order(0,0,0,9) lookedAt(0,0,0)=0 lookedAt(0,0,58)=58 lookedAt(0,0,59)=59");
    }

    private void ruleFewestGiven() {
        doc.under("What a town thinks");
        doc.says("2: one of the person to whom the fewest pieces of this good have been accepted so far in this looking",
            // By pieces, not by orders: person 1 has 1 piece when person 0 has 9.
            "town() rule(2) deliver(0,0,50) order(0,0,0,9)=1 order(0,1,0,1)=2 order(0,0,0,1)=3 order(0,1,0,1)=4"
                + " lookedAt(0,0,0)=1 lookedAt(0,0,1)=2 lookedAt(0,0,2)=4 lookedAt(0,0,3)=3",
            // By all of them, not by the last one.
            "town() rule(2) deliver(0,0,50) order(0,0,0,2)=1 order(0,1,0,3)=2 order(0,0,0,2)=3 order(0,0,0,1)=4 order(0,1,0,1)=5"
                + " lookedAt(0,0,2)=3 lookedAt(0,0,3)=5 lookedAt(0,0,4)=4",
            // What was refused does not count.
            "town() rule(2) deliver(0,0,5) order(0,0,0,9)=1 order(0,0,0,1)=2 order(0,1,0,1)=3 order(0,0,0,1)=4"
                + " lookedAt(0,0,0)=1 lookedAt(0,0,1)=2 lookedAt(0,0,2)=3 lookedAt(0,0,3)=4",
            // Nor what was accepted of another good.
            "town() rule(2) deliver(0,0,9) deliver(0,1,9) order(0,0,0,9)=2 order(0,0,1,1)=3 order(0,1,1,1)=4"
                + " lookedAt(0,1,0)=3 lookedAt(0,1,1)=4",
            "town() rule(2) deliver(0,5,9) order(0,9,5,1)=1 order(0,9,5,1)=2 order(0,0,5,1)=3 lookedAt(0,5,0)=1"
                + " lookedAt(0,5,1)=3 lookedAt(0,5,2)=2",
            "town() rule(2) lookedAt(0,0,0)=NOT_FOUND order(0,0,0,1)=0 lookedAt(0,0,0)=0 lookedAt(0,0,1)=NOT_FOUND");
        doc.says("of all that are left the earliest of these",
            "town() rule(2) 3*order(0,0,0,1) 3*order(0,1,0,1) lookedAt(0,0,0)=0 lookedAt(0,0,2)=2 lookedAt(0,0,3)=3",
            "town() rule(2) deliver(0,0,9) order(0,1,0,3)=1 order(0,0,0,3)=2 order(0,0,0,1)=3 order(0,1,0,1)=4"
                + " lookedAt(0,0,0)=1 lookedAt(0,0,1)=2 lookedAt(0,0,2)=3 lookedAt(0,0,3)=4",
            "town() town() rule(2) order(1,0,0,1)=0 order(0,9,0,1)=1 meet(0,1) lookedAt(0,0,0)=1 lookedAt(0,0,1)=0",
            "5*town() rule(2) deliver(4,0,3) order(4,0,0,2)=1 order(4,0,0,2)=2 55*deliver(4,1,1) order(4,9,0,1)=58"
                + " hear(0,4) order(0,8,0,1)=59 lookedAt(0,0,0)=1 lookedAt(0,0,1)=58 lookedAt(0,0,2)=59 lookedAt(0,0,3)=2");
    }

    private void thinkingAnew() {
        doc.under("Apologies");
        doc.says("Behind each change each town, by number, thinks anew.",
            "town() order(0,0,0,5) thinks(0,0)=1 deliver(0,0,5) thinks(0,0)=0 cancel(0,0) thinks(0,0)=2",
            "5*town() deliver(0,0,5) order(0,0,0,4)=1 order(0,1,0,2)=2 hear(4,0) thinks(4,1)=0 thinks(4,2)=1"
                + " rule(1) thinks(0,1)=1 thinks(4,1)=1 thinks(0,2)=0 thinks(4,2)=0 eventOf(1,8)=17 eventOf(2,8)=0",
            "town() town() deliver(0,0,5) order(1,0,0,5)=1 meet(0,1) thinks(0,1)=0 thinks(1,1)=0",
            "town() town() deliver(0,0,5) order(1,0,0,5)=1 hear(1,0) thinks(1,1)=0 thinks(0,1)=NOT_FOUND",
            "town() order(0,0,0,5) 'd0,0,5;' play()=1 thinks(0,0)=0 undo() thinks(0,0)=1",
            "town() deliver(0,0,5) order(0,0,0,5)=1 town() thinks(0,1)=0 count(6)=0");
    }

    private void apologies() {
        doc.under("Apologies");
        doc.says("For each order that was accepted by it ahead of the change, and is refused by it now, it makes an apology",
            "town() rule(1) deliver(0,0,5) order(0,0,0,5)=1 order(0,1,0,2)=2 townOf(0,5)=1 eventOf(1,8)=1 eventOf(2,8)=0",
            "town() deliver(0,0,5) order(0,0,0,6)=1 order(0,1,0,5)=2 deliver(0,0,2) thinks(0,2)=1 eventOf(2,8)=1 count(6)=1",
            "town() deliver(0,0,10) order(0,0,0,8)=1 order(0,0,0,9)=2 order(0,0,0,2)=3 cancel(0,1) eventOf(3,8)=1"
                + " eventOf(1,8)=0 count(6)=1",
            "town() town() deliver(0,0,10) meet(0,1) order(0,1,0,6)=1 order(1,2,0,6)=2 meet(0,1) eventOf(2,8)=2 townOf(0,5)=0",
            "town() town() deliver(0,0,10) meet(0,1) order(0,1,0,6)=1 order(1,2,0,6)=2 hear(0,1) count(6)=0"
                + " thinks(0,2)=1 hear(1,0) eventOf(2,8)=2",
            "town() deliver(0,0,10) order(0,1,0,8)=1 order(0,2,0,3)=2 rule(1) count(6)=1 townOf(0,5)=1",
            "town() deliver(0,0,10) order(0,1,0,8)=1 order(0,2,0,3)=2 'r1;' play()=1 count(6)=1",
            "town() rule(1) deliver(0,0,6) 3*order(0,1,0,2) 3*order(0,1,0,1) count(6)=2 townOf(0,5)=2 personOf(0,1,3)=2");
        doc.says("that was accepted by it ahead of the change",
            "town() order(0,0,0,5) order(0,0,0,1) rule(1) count(6)=0",
            "town() town() rule(1) deliver(0,0,2) order(0,0,0,2)=1 order(0,0,0,1)=2 hear(1,0) eventOf(1,8)=1 thinks(1,1)=1");
        doc.says("and is refused by it now",
            "town() deliver(0,0,5) order(0,0,0,5)=1 cancel(0,1) count(6)=0",
            "town() order(0,0,0,5) deliver(0,0,5) thinks(0,0)=0 count(6)=0");
    }

    private void onceForEachOrder() {
        doc.under("Apologies");
        doc.says("if it has made none for this order yet",
            "town() deliver(0,0,10) order(0,1,0,8)=1 order(0,2,0,3)=2 rule(1) count(6)=1 rule(0) thinks(0,1)=0 count(6)=2"
                + " rule(1) thinks(0,1)=1 count(6)=2 rule(0) count(6)=2 townOf(0,5)=2 eventOf(1,8)=1 eventOf(2,8)=1",
            "town() town() deliver(0,0,10) order(0,1,0,8)=1 order(0,2,0,3)=2 rule(1) rule(0) count(6)=2 hear(1,0)"
                + " rule(1) count(6)=3 eventOf(1,8)=3 townOf(1,5)=1 personOf(1,1,3)=2",
            "town() deliver(0,0,10) order(0,1,0,8)=1 order(0,2,0,3)=2 rule(1) count(6)=1 undo() count(6)=0 rule(1) count(6)=1");
    }

    private void fullText() {
        doc.under("Texts");
        doc.says("There is a text of at most 80 characters, initially empty",
            "count(10)=0 clearText()=0 fault(0)=NOT_FOUND play()=0",
            "type(32)=1 78*type(32) type(126)=80 type(32)=LIMIT type(126)=LIMIT count(10)=80 clearText()=80 type(100)=1",
            "town() town() 16*'m0,1;' count(10)=80 type(59)=LIMIT fault(0)=NOT_FOUND play()=16");
    }

    private void formsOfCommands() {
        doc.under("Texts");
        doc.says("commands, each followed by \";\"",
            "'r0;' fault(0)=NOT_FOUND", "'r0' fault(1)=1", "'r0;r0' fault(0)=3", "'r0;;' fault(0)=3", "';' fault(0)=0",
            "'r0r0;' fault(0)=0 fault(1)=1", "'r0 ;' fault(1)=1", "'r0; r0;' fault(0)=3", "'r0,' fault(1)=1", "'r0:' fault(1)=1");
        doc.says("\"d\" a town \",\" a good \",\" pieces (a delivery)",
            "town() town() 'd1,2,3;' play()=1 eventOf(0,0)=0 eventOf(0,1)=1 eventOf(0,3)=2 eventOf(0,4)=3 townOf(1,0)=1",
            "5*town() 'd4,5,99;' play()=1 goodOf(4,5,0)=99", "town() 'd0,0,1;' play()=1 goodOf(0,0,0)=1");
        doc.says("\"o\" a town \",\" a person \",\" a good \",\" pieces (an order)",
            "town() town() 'o1,2,3,4;' play()=1 eventOf(0,0)=1 eventOf(0,1)=1 eventOf(0,5)=2 eventOf(0,3)=3 eventOf(0,4)=4",
            "5*town() 'o4,9,5,99;' play()=1 goodOf(4,5,3)=99", "town() 'o0,0,0,1;' play()=1 goodOf(0,0,3)=1");
        doc.says("\"c\" a town \",\" an event (a cancellation)",
            "town() town() order(1,0,0,1) 'c1,0;' play()=1 eventOf(1,0)=2 eventOf(1,1)=1 eventOf(1,6)=0",
            "town() 58*deliver(0,0,1) order(0,0,0,1)=58 'c0,58;' play()=1 eventOf(59,6)=58");
        doc.says("\"m\" a town \",\" a town (they meet)",
            "town() town() deliver(0,0,1) deliver(1,0,1) 'm0,1;' play()=1 townOf(0,1)=2 townOf(1,1)=2",
            "5*town() deliver(4,0,1) 'm4,0;' play()=1 eventOf(0,7)=17");
        doc.says("\"h\" a town \",\" a town (the first one hears the second one)",
            "town() town() deliver(0,0,1) deliver(1,0,1) 'h0,1;' play()=1 townOf(0,1)=2 townOf(1,1)=1",
            "5*town() deliver(4,0,1) 'h0,4;' play()=1 eventOf(0,7)=17");
        doc.says("or \"r\" a rule (it is set)",
            "'r2;' play()=1 count(5)=2", "rule(2) 'r0;' play()=1 count(5)=0");
    }

    private void digits() {
        doc.under("Texts");
        doc.says("numbers of one or two digits, 0 ahead allowed",
            "'r2;' fault(0)=NOT_FOUND", "'r02;' play()=1 count(5)=2", "'r00;' fault(0)=NOT_FOUND", "'r002;' fault(1)=1",
            "'r;' fault(1)=1", "'r-0;' fault(1)=1", "'r+0;' fault(1)=1", "'r0.;' fault(1)=1", "'r/;' fault(1)=1",
            "'r:;' fault(1)=1", "'r0/;' fault(1)=1", "'r0:;' fault(1)=1", "'r 0;' fault(1)=1",
            "town() 'd00,05,09;' play()=1 goodOf(0,5,0)=9", "town() 'd0,0,99;' play()=1 goodOf(0,0,0)=99",
            "town() 'd0,0,10;' play()=1 goodOf(0,0,0)=10", "town() 'd0,0,100;' fault(1)=1", "town() 'd0,0,001;' fault(1)=1",
            "town() 'd000,0,1;' fault(1)=1", "town() 'd0,000,1;' fault(1)=1", "town() 'd,0,1;' fault(1)=1",
            "town() 'd0,,1;' fault(1)=1", "town() 'd0,0,;' fault(1)=1",
            "town() 'o00,09,05,01;' play()=1 eventOf(0,5)=9 eventOf(0,3)=5 eventOf(0,4)=1", "town() 'o0,000,0,1;' fault(1)=1",
            "town() order(0,0,0,1) 'c00,00;' play()=1 eventOf(1,6)=0", "town() order(0,0,0,1) 'c0,000;' fault(1)=1",
            "town() town() 'm00,01;' play()=1", "town() town() 'm0,001;' fault(1)=1", "town() town() 'h01,00;' play()=1");
    }

    private void positionOfTheFault() {
        doc.under("Texts");
        doc.says("The fault of the text is the position, from 0, of the first character of the first command that is not possible",
            "'x' fault(0)=0", "'r3;' fault(0)=0", "'r0;r3;' fault(0)=3", "'r00;r3;' fault(0)=4", "'r3;x' fault(0)=0 fault(1)=2",
            "town() town() 14*'m0,1;' 3*'r0;' ';' count(10)=80 fault(0)=79 fault(1)=1",
            "town() town() 15*'m0,1;' 'r000;' count(10)=80 fault(0)=75 fault(1)=1",
            "town() town() 15*'m0,1;' 'm1,1;' count(10)=80 fault(0)=75 fault(1)=2",
            "town() town() 15*'m0,1;' 'm0,1:' count(10)=80 fault(0)=75 fault(1)=1",
            "town() town() 15*'m0,1;' 'd0,0,' type(49)=LIMIT fault(0)=75 fault(1)=1 play()=NOT_POSSIBLE",
            "town() town() 15*'m0,1;' 'm0,01' type(59)=LIMIT fault(0)=75 fault(1)=1");
        doc.says("when those ahead of it are done",
            "town() 'o0,0,0,1;c0,0;' fault(0)=NOT_FOUND", "town() 'c0,0;o0,0,0,1;' fault(0)=0 fault(1)=2",
            "town() 'o0,0,0,1;c0,0;c0,0;' fault(0)=14 fault(1)=3",
            "town() town() order(0,0,0,1) 'h1,0;c1,0;' fault(0)=NOT_FOUND", "town() town() order(0,0,0,1) 'c1,0;' fault(1)=3",
            "town() 59*deliver(0,0,1) 'd0,0,1;d0,0,1;' fault(0)=7 fault(1)=3",
            "town() 58*deliver(0,0,1) 'd0,0,1;d0,0,1;' fault(0)=NOT_FOUND");
    }

    private void reasonOfTheForm() {
        doc.under("Texts");
        doc.says("its reason is the first of these: 1 it is not of this form, its \";\" included",
            "town() 'd9,9,0' fault(1)=1", "town() 'd9,9,100;' fault(1)=1", "town() 'm0,0' fault(1)=1", "'r9' fault(1)=1",
            "town() deliver(0,0,1) 'c0,0' fault(1)=1 clearText() 'c0,0;' fault(1)=3",
            SIXTY + " 'd0,0,1' fault(1)=1", SIXTY + " 'o0,0,0,1' fault(1)=1", SIXTY + " 'c0,0' fault(1)=1",
            "' ' fault(0)=0 fault(1)=1", "'~' fault(0)=0 fault(1)=1", "80*type(32) fault(0)=0 fault(1)=1",
            "80*type(100) fault(0)=0 fault(1)=1", "80*type(48) fault(0)=0 fault(1)=1", "80*type(59) fault(0)=0 fault(1)=1");
        doc.says("1 it is not of this form",
            "town() 'd' fault(1)=1", "town() 'd0' fault(1)=1", "town() 'd0,' fault(1)=1", "town() 'd0,0' fault(1)=1",
            "town() 'd0,0;' fault(1)=1", "town() 'd0,0,1,' fault(1)=1", "town() 'd0,0,1,1;' fault(1)=1",
            "town() 'd0;0,1;' fault(1)=1", "town() 'd0,0;1;' fault(1)=1", "town() 'D0,0,1;' fault(1)=1",
            "town() 'o0,0,0;' fault(1)=1", "town() 'o0,0,0,1,1;' fault(1)=1", "town() 'o0,0,0,' fault(1)=1",
            "town() order(0,0,0,1) 'c0;' fault(1)=1", "town() order(0,0,0,1) 'c0,0,0;' fault(1)=1",
            "town() town() 'm0;' fault(1)=1", "town() town() 'm0,1,1;' fault(1)=1", "town() town() 'm0.1;' fault(1)=1",
            "town() town() 'h0;' fault(1)=1", "town() town() 'h0,1,0;' fault(1)=1",
            "'r' fault(1)=1", "'r0,0;' fault(1)=1", "'R0;' fault(1)=1", "'0;' fault(1)=1", "'t;' fault(1)=1",
            "'b0;' fault(1)=1", "'e0,0,1;' fault(1)=1", "'q0;' fault(1)=1", "'s0;' fault(1)=1");
    }

    private void reasonOfTheRange() {
        doc.under("Texts");
        doc.says("2 an argument is out of its range",
            "'d0,0,1;' fault(1)=2", "town() 'd1,0,1;' fault(1)=2", "5*town() 'd5,0,1;' fault(1)=2", "town() 'd0,6,1;' fault(1)=2",
            "town() 'd0,0,0;' fault(1)=2", "town() 'd0,0,00;' fault(1)=2", "town() 'd99,99,99;' fault(1)=2",
            "town() 'o1,0,0,1;' fault(1)=2", "town() 'o0,10,0,1;' fault(1)=2", "town() 'o0,0,6,1;' fault(1)=2",
            "town() 'o0,0,0,0;' fault(1)=2", "'c0,0;' fault(1)=2", "town() 'c0,0;' fault(1)=2",
            "town() order(0,0,0,1) 'c1,0;' fault(1)=2", "town() order(0,0,0,1) 'c0,1;' fault(1)=2",
            "town() 'm0,1;' fault(1)=2", "town() 'm1,0;' fault(1)=2", "town() 'm0,0;' fault(1)=2", "town() 'h0,1;' fault(1)=2",
            "town() 'h1,0;' fault(1)=2", "town() 'h0,0;' fault(1)=2", "'r3;' fault(1)=2", "'r99;' fault(1)=2");
        doc.says("2 an argument is out of its range, 3 it is not possible otherwise",
            "town() deliver(0,0,1) 'c1,0;' fault(1)=2 clearText() 'c0,0;' fault(1)=3",
            SIXTY + " 'd0,6,1;' fault(1)=2 clearText() 'd0,5,1;' fault(1)=3",
            SIXTY + " 'o0,10,0,1;' fault(1)=2 clearText() 'o0,9,0,1;' fault(1)=3",
            SIXTY + " 'c0,60;' fault(1)=2 clearText() 'c0,0;' fault(1)=3 clearText() 'c0,59;' fault(1)=3",
            SIXTY + " 'c1,0;' fault(1)=2 clearText() 'm0,0;' fault(1)=2 clearText() 'r3;' fault(1)=2");
    }

    private void reasonOtherwise() {
        doc.under("Texts");
        doc.says("3 it is not possible otherwise",
            "town() deliver(0,0,1) 'c0,0;' fault(0)=0 fault(1)=3",
            "town() order(0,0,0,1) cancel(0,0)=1 'c0,1;' fault(1)=3 clearText() 'c0,0;' fault(1)=3",
            "town() town() order(0,0,0,1) 'c1,0;' fault(1)=3",
            SIXTY + " 'd0,0,1;' fault(1)=3", SIXTY + " 'o0,0,0,1;' fault(1)=3", SIXTY + " 'c0,0;' fault(1)=3",
            SIXTY + " town() 'r2;m0,1;h1,0;' fault(1)=NOT_FOUND play()=3 townOf(1,1)=60");
    }

    private void thinkingBehindCommands() {
        doc.under("Texts");
        doc.says("(Behind each command towns think anew, as behind a change.)",
            "town() deliver(0,0,10) order(0,1,0,8)=1 order(0,2,0,3)=2 'r1;r0;' play()=2 count(6)=2 thinks(0,1)=0 thinks(0,2)=1",
            "town() 'd0,0,5;o0,0,0,5;c0,1;' play()=3 count(6)=0",
            "town() town() 'd0,0,10;m0,1;o0,1,0,6;o1,2,0,6;m0,1;c1,2;' play()=6 eventOf(2,8)=2 thinks(1,2)=2 count(6)=1",
            "town() deliver(0,0,10) order(0,1,0,8)=1 'o0,2,0,3;r1;d0,0,1;r0;r1;' play()=5 eventOf(1,8)=1 count(6)=1");
    }

    private void changes() {
        doc.under("Changes and errors");
        doc.says("The changes are the calls of town, deliver, order, cancel, meet, hear, rule and play that return no error.",
            "count(9)=0 town() count(9)=1 deliver(0,0,1) count(9)=2 order(0,0,0,1) count(9)=3 cancel(0,1) count(9)=4",
            "count(9)=0 town() town() meet(0,1)=0 count(9)=3 hear(0,1)=0 count(9)=4",
            "count(9)=0 rule(0)=0 count(9)=1 play()=0 count(9)=2",
            "town() town() order(0,0,0,1) eventOf(0,0) thinks(0,0) townOf(0,0) goodOf(0,0,0) lookedAt(0,0,0) personOf(0,0,0)"
                + " unheard(0,1) count(0) would(0,1,0) wouldRule(1) kindest(0) rounds() type(114) fault(0) clearText() count(9)=3",
            "5*town() undo() undo() undo()=1 count(9)=1");
        doc.says("that return no error",
            "town() deliver(0,0,0)=INVALID order(0,0,0,0)=INVALID cancel(0,0)=INVALID meet(0,0)=INVALID hear(0,0)=INVALID"
                + " rule(3)=INVALID 'x' play()=NOT_POSSIBLE count(9)=1",
            "5*town() undo() undo() town() undo() town() town()=4 town()=LIMIT count(9)=4 undo()=3 count(0)=4",
            "town() order(0,0,0,1) undo() undo() town() deliver(0,0,1) cancel(0,0)=NOT_POSSIBLE count(9)=2");
    }

    private void history() {
        doc.under("Changes and errors");
        doc.says("A history of at most 4 states is kept",
            "count(9)=0 undo()=NOT_POSSIBLE",
            "4*rule(1) count(9)=4 undo()=3 undo()=2 undo()=1 undo()=0 undo()=NOT_POSSIBLE",
            "5*rule(1) count(9)=4 undo()=3 undo()=2 undo()=1 undo()=0 undo()=NOT_POSSIBLE",
            "4*town() undo()=3 rule(1) count(9)=4 rule(1) count(9)=4 undo()=3");
        doc.says("if there are 5 states then, the oldest one is dropped",
            "5*town() undo()=3 undo()=2 undo()=1 undo()=0 count(0)=1",
            "4*town() undo()=3 undo()=2 undo()=1 undo()=0 count(0)=0",
            "town() 60*deliver(0,0,1) undo()=3 count(1)=59 undo()=2 count(1)=58 undo()=1 count(1)=57 undo()=0 count(1)=56"
                + " undo()=NOT_POSSIBLE count(1)=56 deliver(0,0,1)=56 count(9)=1",
            "rule(1) rule(2) rule(0) rule(1) rule(2) rule(0) undo() count(5)=2 undo() count(5)=1 undo() count(5)=0 undo()=0"
                + " count(5)=2");
    }

    private void whatAChangeRecords() {
        doc.under("Changes and errors");
        doc.says("each change records everything before it but the text",
            "type(120) town() type(121) undo()=0 count(10)=2 clearText()=2",
            "type(120) town() clearText() undo()=0 count(10)=0",
            "'r1;' play() clearText() 'r2;r0;' undo()=0 count(10)=6 play()=2",
            "town() undo()=0 count(0)=0 deliver(0,0,1)=INVALID",
            "town() deliver(0,0,5) undo()=1 count(1)=0 townOf(0,0)=0 townOf(0,1)=0 goodOf(0,0,0)=0 eventOf(0,0)=INVALID",
            "town() order(0,0,0,5) undo()=1 count(3)=0 townOf(0,3)=0 lookedAt(0,0,0)=NOT_FOUND personOf(0,0,0)=0",
            "town() deliver(0,0,5) order(0,0,0,5) cancel(0,1) undo()=3 thinks(0,1)=0 count(4)=0 townOf(0,4)=0 goodOf(0,0,1)=5",
            "town() town() deliver(0,0,5) order(1,0,0,5)=1 meet(0,1) undo()=3 townOf(0,1)=1 townOf(1,1)=1 thinks(1,1)=1"
                + " eventOf(0,7)=1 eventOf(1,7)=2",
            "town() town() 2*deliver(0,0,1) hear(1,0) undo()=3 townOf(1,0)=0 townOf(1,1)=0 townOf(0,0)=2",
            "town() deliver(0,0,10) order(0,1,0,8)=1 order(0,2,0,3)=2 rule(1) undo()=3 count(5)=0 count(6)=0 eventOf(1,8)=0"
                + " townOf(0,5)=0 thinks(0,1)=0 thinks(0,2)=1",
            "town() town() 'd0,0,9;o1,1,0,9;m0,1;r2;c0,1;' play()=5 undo()=2 count(1)=0 count(5)=0 townOf(0,0)=0 townOf(1,0)=0"
                + " count(10)=29",
            // The fifth town.
            "5*town() deliver(4,0,10) undo() townOf(4,0)=0 townOf(4,1)=0 goodOf(4,0,0)=0",
            "5*town() deliver(4,0,9) order(4,0,0,9) order(4,0,0,1) deliver(4,0,1) undo() townOf(4,0)=3 townOf(4,1)=3 townOf(4,2)=1"
                + " townOf(4,3)=1 thinks(4,1)=0 thinks(4,2)=1",
            "5*town() deliver(4,0,10) order(4,1,0,8)=1 order(4,2,0,3)=2 rule(1) deliver(4,1,1) undo() townOf(4,5)=1 eventOf(1,8)=16",
            // Another event has had the number in between.
            "town() town() deliver(0,1,5) order(0,1,1,5) cancel(0,1) undo() undo() undo() order(1,2,3,4)=0 deliver(1,3,9)=1"
                + " order(1,3,3,6) undo() eventOf(0,0)=1 eventOf(0,1)=1 eventOf(0,2)=1 eventOf(0,3)=3 eventOf(0,4)=4 eventOf(0,5)=2"
                + " eventOf(0,6)=NOT_FOUND eventOf(1,0)=0 eventOf(1,1)=1 eventOf(1,2)=2 eventOf(1,3)=3 eventOf(1,4)=9"
                + " eventOf(1,5)=NOT_FOUND thinks(1,0)=0");
    }

    private void orderOfErrors() {
        doc.under("Changes and errors");
        doc.says("INVALID_ARGUMENT is returned rather than NOT_POSSIBLE",
            "town() deliver(0,0,1) cancel(1,0)=INVALID cancel(0,0)=NOT_POSSIBLE",
            "town() deliver(0,0,1) thinks(1,0)=INVALID thinks(0,0)=NOT_POSSIBLE");
        doc.says("INVALID_ARGUMENT is returned rather than NOT_POSSIBLE, NOT_POSSIBLE rather than LIMIT_REACHED, "
            + "and LIMIT_REACHED rather than NOT_FOUND",
            // Wrong, and a limit is reached.
            SIXTY + " deliver(0,0,0)=INVALID deliver(0,0,1)=LIMIT", SIXTY + " deliver(0,6,1)=INVALID",
            SIXTY + " deliver(1,0,1)=INVALID", SIXTY + " order(0,10,0,1)=INVALID order(0,9,0,1)=LIMIT",
            SIXTY + " order(1,0,0,1)=INVALID", SIXTY + " order(0,0,6,1)=INVALID", SIXTY + " order(0,0,0,100)=INVALID",
            SIXTY + " cancel(0,60)=INVALID cancel(1,0)=INVALID cancel(0,0)=LIMIT",
            "80*type(32) type(31)=INVALID type(127)=INVALID type(32)=LIMIT",
            // Wrong, and there is no such value.
            "town() deliver(0,0,1) eventOf(1,5)=INVALID eventOf(0,5)=NOT_FOUND eventOf(0,9)=INVALID",
            "town() lookedAt(0,6,0)=INVALID lookedAt(1,0,0)=INVALID lookedAt(0,0,-1)=INVALID lookedAt(0,0,0)=NOT_FOUND",
            "town() town() order(0,0,0,1) thinks(2,0)=INVALID thinks(1,1)=INVALID thinks(1,0)=NOT_FOUND",
            "fault(2)=INVALID fault(-1)=INVALID fault(0)=NOT_FOUND");
        doc.says("NOT_POSSIBLE rather than LIMIT_REACHED",
            SIXTY + " cancel(0,1)=NOT_POSSIBLE cancel(0,0)=LIMIT", SIXTY + " town() cancel(1,0)=NOT_POSSIBLE",
            "town() order(0,0,0,1) cancel(0,0) 58*deliver(0,0,1) cancel(0,0)=NOT_POSSIBLE cancel(0,1)=NOT_POSSIBLE");
        doc.says("LIMIT_REACHED rather than NOT_FOUND",
            // No call has both; this one is nearest: not possible, and not known either.
            "town() town() deliver(0,0,1) thinks(1,0)=NOT_POSSIBLE order(0,0,0,1) thinks(1,1)=NOT_FOUND");
    }

    private void noSuchTown() {
        doc.under("Changes and errors");
        String[] calls = {
            "deliver(#,0,1)", "order(#,0,0,1)", "cancel(#,0)", "meet(#,0)", "meet(0,#)", "hear(#,0)", "hear(0,#)", "thinks(#,0)",
            "townOf(#,0)", "goodOf(#,0,0)", "lookedAt(#,0,0)", "personOf(#,0,0)", "unheard(#,0)", "unheard(0,#)",
            "would(#,0,0)", "would(0,#,0)",
        };
        for (String call : calls) {
            doc.says("If there is no town or event with a certain number, this is INVALID_ARGUMENT.",
                call.replace("#", "0") + "=INVALID",
                Sentences.outside("town() order(0,0,0,1)", call, 0, 0),
                Sentences.outside("town() town() order(1,0,0,1)", call, 0, 1),
                Sentences.outside("5*town() order(4,0,0,1)", call, 0, 4),
                "town() town() order(0,0,0,1) undo() undo() " + call.replace("#", "1") + "=INVALID");
        }
    }

    private void noSuchEvent() {
        doc.under("Changes and errors");
        String[] calls = {"cancel(0,#)", "eventOf(#,0)", "eventOf(#,7)", "thinks(0,#)"};
        for (String call : calls) {
            doc.says("If there is no town or event with a certain number, this is INVALID_ARGUMENT.",
                call.replace("#", "0") + "=INVALID",
                "town() " + call.replace("#", "0") + "=INVALID",
                Sentences.outside("town() order(0,0,0,1)", call, 0, 0),
                Sentences.outside("town() 60*order(0,0,0,1)", call, 0, 59),
                "town() 2*order(0,0,0,1) undo() " + call.replace("#", "1") + "=INVALID");
        }
    }
}
