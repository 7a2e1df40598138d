import java.util.ArrayList;
import java.util.List;

/** The sentences of section 6 of the Description (undoing) that name a boundary case. */
public final class UndoTest {
    public static void main(String[] args) {
        changes();
        asBefore();
        noChanges();
        comesToNothing();
        throwsSomething();
        lastTen();
        eleventh();
        undoing();
        windingUndone();
        deskStays();
        knocks();
        Checks.end("UndoTest");
    }

    /** What the ten methods do that make a CHANGE. The desk is 1 1 0 1 1 0 1 1. */
    private static Object change(Backwardterms b, int kind, int name) {
        switch (kind) {
            case 0: return b.two(name, 2, 3, 4, 5);
            case 1: return b.tell(name, 3);
            case 2: return b.adopt(name);
            case 3: return b.combine(name, 0, 1, 0);
            case 4: return b.derive(name, 1, 4, 3);
            case 5: return b.machine(name, 2, 2, 1);
            case 6: return b.read(name, 1);
            case 7: return b.shorten(6);
            case 8: return b.drop(1);
            default: return b.wind();
        }
    }

    private static Backwardterms busy() {
        return Checks.busy(1, 1, 0, 1, 1, 0, 1, 1);
    }

    private static void changes() {
        Checks.sentence("a CHANGE is what two(), tell(), adopt(), combine(), derive(), machine(), read(), shorten(), drop() and wind() do");
        for (int kind = 0; kind <= 9; kind++) {
            for (int name : new int[] {0, 10, 25}) {
                Backwardterms b = busy();
                b.undo();
                b.undo();
                String before = Checks.held(b);
                Checks.due("books(2) ahead of kind " + kind, b.books(2), 8);
                change(b, kind, name);
                Checks.due("it does something: kind " + kind, Checks.held(b).equals(before), false);
                Checks.due("books(2) after kind " + kind, b.books(2), 9);
                Checks.due("undo() of kind " + kind, b.undo(), 8);
                Checks.due("all as ahead of kind " + kind, Checks.held(b), before);
            }
        }
    }

    /** The same once more, so that the second time nothing is other than before. */
    private static void asBefore() {
        Checks.sentence("a CHANGE, (also if all is as before then)");
        for (int kind = 0; kind <= 9; kind++) {
            if (kind == 8) continue;
            Backwardterms b = busy();
            for (int i = 0; i < 4; i++) b.undo();
            change(b, kind, 10);
            String before = Checks.held(b);
            Checks.due("books(2) ahead of kind " + kind, b.books(2), 7);
            change(b, kind, 10);
            Checks.due("all is as before: kind " + kind, Checks.held(b), before);
            Checks.due("books(2) after kind " + kind, b.books(2), 8);
            Checks.due("undo() of kind " + kind, b.undo(), 7);
            Checks.due("all is as before: kind " + kind, Checks.held(b), before);
        }
    }

    private static void noChanges() {
        Checks.sentence("what no other method does is a CHANGE");
        Backwardterms b = busy();
        b.undo();
        String before = Checks.held(b);
        b.lay(1, 5, 0, 0, 0, 0);
        b.sweep();
        b.knock();
        b.digest();
        b.isSound();
        b.term(0, 50);
        b.found(0);
        Checks.due("books(2)", b.books(2), 9);
        Checks.due("SEQUENCES and WINDING", Checks.held(b), before);
        Checks.sentence("undoing is no CHANGE");
        for (int left = 8; left >= 0; left--) {
            Checks.due("undo()", b.undo(), left);
            Checks.due("books(2)", b.books(2), left);
        }
        Checks.throwsJust("undo()", Checks.STATE, () -> b.undo());
        Checks.due("books(2)", b.books(2), 0);
    }

    private static void comesToNothing() {
        Checks.sentence("a CHANGE, if they come to something: else nothing can be undone more than before");
        Checks.nothing("adopt that is UNSURE", () -> Checks.busy(0, 1), -7, b -> b.adopt(0));
        Checks.nothing("adopt that is BROKEN", () -> Checks.busy(2, 3), -6, b -> b.adopt(0));
        Checks.nothing("combine that is CROOKED", UndoTest::busy, -5, b -> b.combine(0, 0, 1, 4));
        Checks.nothing("machine with a FAULT", UndoTest::busy, -100, b -> b.machine(0, 1, 1, 1));
        Checks.nothing("read that is CROOKED", UndoTest::busy, -5, b -> b.read(0, 2));
        Checks.nothing("adopt in a new object", () -> Checks.withDesk(0, 1), -7, b -> b.adopt(0));
        Checks.nothing("read in a new object", () -> Checks.withDesk(0, 2), -5, b -> b.read(0, 1));
        Checks.nothing("machine in a new object", () -> Checks.withDesk(5), -100, b -> b.machine(0, 1, 1, 1));
    }

    private static void throwsSomething() {
        Checks.sentence("a CHANGE, if they throw nothing: else nothing is changed, and nothing can be undone more than before");
        Checks.nothing("two", UndoTest::busy, Checks.ARGUMENT, b -> b.two(0, 0, 0, 0, 100));
        Checks.nothing("tell", UndoTest::busy, Checks.ARGUMENT, b -> b.tell(0, 5));
        Checks.nothing("tell", () -> Checks.busy(1, 2, 3), Checks.STATE, b -> b.tell(0, 2));
        Checks.nothing("adopt", UndoTest::busy, Checks.ARGUMENT, b -> b.adopt(26));
        Checks.nothing("adopt", () -> Checks.busy(0, 0, 0, 1, 99, -99, 99, -99), Checks.STATE, b -> b.adopt(0));
        Checks.nothing("combine", UndoTest::busy, Checks.INDEX, b -> b.combine(0, 0, 9, 0));
        Checks.nothing("combine", UndoTest::busy, Checks.ARGUMENT, b -> b.combine(0, 0, 0, 5));
        Checks.nothing("combine", UndoTest::busy, Checks.STATE, b -> b.combine(0, 8, 2, 0));
        Checks.nothing("derive", UndoTest::busy, Checks.INDEX, b -> b.derive(0, 9, 0, 0));
        Checks.nothing("derive", UndoTest::busy, Checks.ARGUMENT, b -> b.derive(0, 0, 0, 1));
        Checks.nothing("derive", UndoTest::busy, Checks.STATE, b -> b.derive(8, 8, 0, 0));
        Checks.nothing("machine", UndoTest::busy, Checks.ARGUMENT, b -> b.machine(0, 2, 2, 4));
        Checks.nothing("machine", UndoTest::busy, Checks.STATE, b -> b.machine(0, 3, 3, 1));
        Checks.nothing("read", UndoTest::busy, Checks.ARGUMENT, b -> b.read(0, -1));
        Checks.nothing("read", UndoTest::busy, Checks.STATE, b -> b.read(0, 8));
        Checks.nothing("shorten", UndoTest::busy, Checks.INDEX, b -> b.shorten(9));
        Checks.nothing("drop", UndoTest::busy, Checks.INDEX, b -> b.drop(9));
        Checks.nothing("wind", () -> Checks.busy(0, 1, 1, 1, 1, 1, 1), Checks.STATE, b -> b.wind());
        Checks.nothing("lay", UndoTest::busy, Checks.ARGUMENT, b -> b.lay(2, 1, 100, 0, 0, 0));
        Checks.nothing("lay", () -> Checks.busy(new int[15]), Checks.STATE, b -> b.lay(2, 1, 1, 0, 0, 0));
        Checks.nothing("undo of none", Backwardterms::new, Checks.STATE, b -> b.undo());
    }

    // ---- how many

    private static void lastTen() {
        Checks.sentence("the last 10 CHANGES can be undone, the last one first: the 10th");
        for (int many = 0; many <= 13; many++) {
            Backwardterms b = new Backwardterms();
            List<String> before = new ArrayList<>();
            for (int i = 0; i < many; i++) {
                before.add(Checks.held(b));
                b.two(i % 4, i, 0, 0, 0);
                Checks.due("books(2) after " + (i + 1), b.books(2), Math.min(i + 1, 10));
            }
            int left = Math.min(many, 10);
            for (int i = 1; i <= Math.min(many, 10); i++) {
                Checks.due("undo() of " + many, b.undo(), left - i);
                Checks.due("held after undo()", Checks.held(b), before.get(many - i));
            }
            Checks.throwsJust("one undo() more", Checks.STATE, () -> b.undo());
        }
    }

    private static void eleventh() {
        Checks.sentence("(with an 11th the oldest is forgotten)");
        Backwardterms b = new Backwardterms();
        b.two(0, 1, 1, 1, 1);
        b.two(1, 2, 2, 2, 2);
        for (int i = 0; i < 8; i++) b.two(2, i, 0, 0, 0);
        Checks.due("the 10th", b.books(2), 10);
        b.two(3, 9, 9, 9, 9);
        Checks.due("the 11th", b.books(2), 10);
        for (int left = 9; left >= 0; left--) Checks.due("undo()", b.undo(), left);
        Checks.due("the first one stays", b.names() + " " + b.text(0), "a 1 1 ; 1 1");
        Checks.throwsJust("undo()", Checks.STATE, () -> b.undo());
        Checks.sentence("after some are undone, others take their places");
        for (int i = 0; i < 5; i++) b.two(5, i, 0, 0, 0);
        Checks.due("undo()", b.undo(), 4);
        Checks.due("undo()", b.undo(), 3);
        b.drop(5);
        Checks.due("books(2)", b.books(2), 4);
        Checks.due("undo()", b.undo(), 3);
        Checks.due("text", b.text(5), "2 0 ; 0 0");
        Checks.due("undo()", b.undo(), 2);
        Checks.due("text", b.text(5), "1 0 ; 0 0");
    }

    private static void undoing() {
        Checks.sentence("SEQUENCES are then as they were ahead of it: one that had none, one that had another, one that was dropped");
        Backwardterms b = new Backwardterms();
        b.two(7, 1, 2, 3, 4);
        b.undo();
        Checks.due("none", b.names() + b.books(1) + b.has(7), "0false");
        b.two(7, 1, 2, 3, 4);
        b.two(7, 5, 6, 7, 8);
        b.undo();
        Checks.due("another", b.text(7), "1 2 ; 3 4");
        b.drop(7);
        b.undo();
        Checks.due("dropped", b.text(7) + " " + b.books(1), "1 2 ; 3 4 1");
        b.two(7, 3, -2, 4, 4);
        b.shorten(7);
        Checks.due("shortened", b.text(7), "1 ; 4");
        b.undo();
        Checks.due("not shortened", b.text(7), "3 -2 ; 4 4");
        Checks.due("what is asked of it", b.ofSequence(7, 0) + " " + b.ofSequence(7, 1) + " " + b.fraction(7), "2 1 4 / 1 -1");
        b.combine(7, 7, 7, 2);
        b.undo();
        Checks.due("made of itself", b.text(7), "3 -2 ; 4 4");
    }

    private static void windingUndone() {
        Checks.sentence("WINDING is then as it was ahead of it: none, and another one");
        Backwardterms b = Checks.withDesk(1, 0, 1, 0, 1, 0, 0, 1);
        b.wind();
        b.undo();
        Checks.due("none", b.books(3) + " " + b.wound(0) + " " + b.woundSum(1), "0 none none");
        b.wind();
        Checks.put(b, -3, 1, 1, 1, 1, 1, 7, 8);
        b.wind();
        Checks.due("three", b.books(3) + " " + b.wound(0) + " " + b.wound(3), "3 7 none");
        b.two(0, 1, 1, 1, 1);
        b.undo();
        Checks.due("still three", b.books(3) + " " + b.wound(0) + " " + b.wound(3), "3 7 none");
        b.undo();
        Checks.due("another", b.books(3) + " " + b.wound(0) + " " + b.wound(40), "41 0 102334155");
        b.undo();
        Checks.due("none again", b.books(3) + " " + b.wound(0), "0 none");
    }

    private static void deskStays() {
        Checks.sentence("the DESK is not touched by it");
        Backwardterms b = Checks.busy(5, 6);
        b.lay(1, 7, 0, 0, 0, 0);
        b.two(0, 1, 1, 1, 1);
        b.lay(1, 8, 0, 0, 0, 0);
        b.undo();
        Checks.due("four numbers", b.books(0) + " " + b.desk(0) + " " + b.desk(3), "4 5 8");
        b.sweep();
        b.undo();
        Checks.due("none", b.books(0), 0);
        Checks.throwsJust("desk(0)", Checks.INDEX, () -> b.desk(0));
        Checks.due("found(0)", b.found(0), 0);
    }

    private static void knocks() {
        Checks.sentence("the KEEPER of the book counts who KNOCKED");
        Backwardterms b = new Backwardterms();
        Checks.due("books(4)", b.books(4), 0);
        for (int many = 1; many <= 300; many++) {
            Checks.due("knock()", b.knock(), many);
            if (many % 100 == 0) Checks.due("books(4)", b.books(4), many);
        }
        b.two(0, 1, 1, 1, 1);
        b.undo();
        b.sweep();
        Checks.due("books(4) after undo() and sweep()", b.books(4), 300);
        Checks.due("another object", new Backwardterms().knock(), 1);
    }
}
