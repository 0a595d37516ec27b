/** Promises 5 to 8: drop(), copy(), spoil() and forward(). Behind each // the sentence that the test holds to. */
public final class LettersTest {
    private static final int SILENT = Scenes.SILENT;
    private static final int[] NO_LETTERS_OF_FOUR = {-1, 4, 5, 199, 200, Integer.MIN_VALUE, Integer.MAX_VALUE};

    public static void main(String[] args) {
        Check.all(LettersTest.class);
    }

    // Messages with the values 11, 12, 13 of node 0 to node 2.
    private static TellTale threeMessages() {
        TellTale x = Scenes.opened(4);
        for (int value = 11; value <= 13; value++) {
            x.lie(0, 2, value);
        }
        return x;
    }

    private static void tell(TellTale x, int... values) {
        Check.due("letters", x.total(0), values.length);
        for (int i = 0; i < values.length; i++) {
            Check.due("value of letter " + i, x.spoil(i, values[i]), values[i]);
        }
    }

    // A node of six that keeps a head of each other one.
    private static TellTale keepsAll(int node) {
        TellTale x = Scenes.opened(6);
        for (int from = 0; from < 6; from++) {
            if (from != node) {
                x.lie(from, node, SILENT);
                x.deliver(0);
            }
        }
        Check.due("kept", x.about(node, 3), 5);
        return x;
    }

    // Letter i is lost: 1 a message, 2 a note.
    static void promise05MessageIsLost() {
        TellTale x = threeMessages();
        Check.due("drop(0)", x.drop(0), 1);
        tell(x, 12, 13);
        Check.due("taken by 2", x.about(2, 4), 0);
        Check.due("kept by 2", x.about(2, 3), 0);
        Check.due("sent", x.total(1), 3);
    }

    static void promise05NoteIsLost() {
        TellTale x = Scenes.opened(5);
        x.lie(0, 4, SILENT);
        x.deliver(0);
        x.forward(4);
        Check.due("drop(0)", x.drop(0), 2);
        Check.due("letters", x.total(0), 1);
        Check.due("not sent again", x.forward(4), 0);
        Check.due("the other note", x.deliver(0), true);
        Check.due("kept by 2", x.about(2, 3), 1);
        Check.due("kept by 1", x.about(1, 3), 0);
    }

    static void promise05MidstOfTheRow() {
        TellTale x = threeMessages();
        Check.due("drop(1)", x.drop(1), 1);
        tell(x, 11, 13);
    }

    static void promise05LastOfTheRow() {
        TellTale x = threeMessages();
        Check.due("drop(2)", x.drop(2), 1);
        tell(x, 11, 12);
    }

    static void promise05OnlyOneOfTheRow() {
        TellTale x = new TellTale();
        x.lie(0, 1, 3);
        Check.due("drop(0)", x.drop(0), 1);
        Check.due("letters", x.total(0), 0);
        Check.iae("drop(0) again", () -> x.drop(0));
    }

    static void promise05FullRow() {
        TellTale x = Scenes.manyLetters(200);
        Check.due("drop(199)", x.drop(199), 1);
        Check.iae("drop(199) again", () -> x.drop(199));
        Check.due("letters", x.total(0), 199);
        x.lie(1, 2, 4);
        Check.due("there is room for one", x.total(0), 200);
        Check.due("it is the last", x.spoil(199, 4), 4);
    }

    static void promise05RowGoesOnBehindIt() {
        TellTale x = threeMessages();
        x.drop(0);
        x.drop(0);
        x.drop(0);
        x.lie(0, 2, SILENT);
        tell(x, SILENT);
        Check.due("a new one", x.deliver(0), true);
        Check.due("its value", x.entry(2, 1, 2), SILENT);
    }

    static void promise05RefusesNoLetter() {
        for (int bad : NO_LETTERS_OF_FOUR) {
            Twins.refuse(Check.IAE, "drop(" + bad + ")", Scenes::busy, x -> x.drop(bad));
        }
    }

    static void promise05RefusesAnEmptyRow() {
        Twins.refuse(Check.IAE, "drop(0)", Scenes::fresh, x -> x.drop(0));
    }

    static void promise05RefusesBehindAFullRow() {
        Twins.refuse(Check.IAE, "drop(200)", () -> Scenes.manyLetters(200), x -> x.drop(200));
    }

    // Letter i once more, behind all others: whether there was room.
    static void promise06CopyStandsBehindAllOthers() {
        for (int i = 0; i < 3; i++) {
            TellTale x = threeMessages();
            Check.due("copy(" + i + ")", x.copy(i), true);
            tell(x, 11, 12, 13, 11 + i);
            Check.due("sent, copies not", x.total(1), 3);
        }
    }

    static void promise06CopyIsAsGood() {
        TellTale x = Scenes.opened(4);
        x.lie(3, 1, SILENT);
        x.lie(3, 2, SILENT);
        x.copy(0);
        Check.due("the copy", x.deliver(2), true);
        Check.due("who", x.entry(1, 1, 1), 3);
        Check.due("what it was made of", x.deliver(0), false);
        Check.due("another letter", x.deliver(0), true);
    }

    static void promise06CopyIsALetterOfItsOwn() {
        TellTale x = threeMessages();
        x.copy(1);
        x.spoil(3, 5);
        tell(x, 11, 12, 13, 5);
        x.spoil(1, 6);
        tell(x, 11, 6, 13, 5);
        x.copy(3);
        tell(x, 11, 6, 13, 5, 5);
        Check.due("a spoiled copy", x.deliver(3), false);
        x.drop(1);
        tell(x, 11, 13, 5);
    }

    static void promise06CopyOfANote() {
        TellTale x = Scenes.opened(5);
        x.lie(0, 4, SILENT);
        x.deliver(0);
        x.forward(4);
        Check.due("copy(1)", x.copy(1), true);
        x.drop(1);
        Check.due("the copy", x.deliver(1), true);
        Check.due("kept by 2", x.about(2, 3), 1);
        Check.due("drop of the other", x.drop(0), 2);
    }

    static void promise06CopyOfACopyOfANoteIsANote() {
        TellTale x = threeMessages();
        x.drop(0);
        x.lie(1, 2, SILENT);
        x.deliver(2);
        x.forward(2);
        x.copy(2);
        x.copy(3);
        Check.iae("spoil of it", () -> x.spoil(4, 1));
        Check.due("drop of it", x.drop(4), 2);
    }

    // LETTERS lie in a row of 200 at most
    static void promise06IntoTheLastPlace() {
        TellTale x = Scenes.manyLetters(199);
        Check.due("copy(198)", x.copy(198), true);
        Check.due("letters", x.total(0), 200);
        Check.due("its value", x.spoil(199, 1), SILENT);
    }

    static void promise06IntoAFullRow() {
        TellTale x = Scenes.manyLetters(200);
        x.spoil(0, 4);
        Check.due("copy(0)", x.copy(0), false);
        Check.due("copy(199)", x.copy(199), false);
        Check.due("letters", x.total(0), 200);
        Check.due("the last letter's value", x.spoil(199, SILENT), SILENT);
        Check.due("sent", x.total(1), 1);
        x.drop(199);
        Check.due("copy(0) with room again", x.copy(0), true);
        Check.due("its value", x.spoil(199, 4), 4);
    }

    static void promise06IntoAFullRowChangesNothing() {
        TellTale x = Scenes.manyLetters(200);
        x.copy(7);
        Twins.alike("copy into a full row", x, Scenes.manyLetters(200));
    }

    static void promise06RefusesNoLetter() {
        for (int bad : NO_LETTERS_OF_FOUR) {
            Twins.refuse(Check.IAE, "copy(" + bad + ")", Scenes::busy, x -> x.copy(bad));
        }
    }

    static void promise06RefusesAnEmptyRow() {
        Twins.refuse(Check.IAE, "copy(0)", Scenes::fresh, x -> x.copy(0));
    }

    static void promise06RefusesBehindAFullRow() {
        Twins.refuse(Check.IAE, "copy(200)", () -> Scenes.manyLetters(200), x -> x.copy(200));
        Twins.refuse(Check.IAE, "copy(-1)", () -> Scenes.manyLetters(200), x -> x.copy(-1));
    }

    // The value that message i tells becomes another one: what it was; its signature stays.
    static void promise07ValueBecomesAnother() {
        TellTale x = threeMessages();
        Check.due("spoil(1, -4)", x.spoil(1, -4), 12);
        tell(x, 11, -4, 13);
        Check.due("spoil(1, MIN)", x.spoil(1, Integer.MIN_VALUE), -4);
        Check.due("spoil(1, MAX)", x.spoil(1, Integer.MAX_VALUE), Integer.MIN_VALUE);
        tell(x, 11, Integer.MAX_VALUE, 13);
        Check.due("the log stays", x.entry(0, 2, 2), 12);
    }

    static void promise07FirstAndLastLetter() {
        TellTale x = threeMessages();
        Check.due("spoil(0, 1)", x.spoil(0, 1), 11);
        Check.due("spoil(2, 3)", x.spoil(2, 3), 13);
        tell(x, 1, 12, 3);
        TellTale y = Scenes.manyLetters(200);
        Check.due("spoil(199, 1)", y.spoil(199, 1), SILENT);
        Check.due("spoil(199, 2)", y.spoil(199, 2), 1);
        Check.due("spoil(198, 2)", y.spoil(198, 2), SILENT);
    }

    static void promise07SignatureStays() {
        TellTale x = threeMessages();
        x.spoil(0, 5);
        x.copy(0);
        Check.due("a spoiled one", x.deliver(0), false);
        Check.due("made good again", x.spoil(2, 11), 5);
        Check.due("one made good again", x.deliver(2), true);
    }

    static void promise07ToWhatItIs() {
        TellTale x = Scenes.busy();
        x.spoil(0, x.spoil(0, 3));
        Twins.alike("spoil to what it is", x, Scenes.busy());
    }

    // IllegalArgumentException: also for a note.
    static void promise07RefusesANote() {
        Twins.refuse(Check.IAE, "spoil(2, 5) of a note", Scenes::busy, x -> x.spoil(2, 5));
        Twins.refuse(Check.IAE, "spoil(2, 0) of a note", Scenes::busy, x -> x.spoil(2, 0));
    }

    static void promise07RefusesNoLetter() {
        for (int bad : NO_LETTERS_OF_FOUR) {
            Twins.refuse(Check.IAE, "spoil(" + bad + ", 5)", Scenes::busy, x -> x.spoil(bad, 5));
        }
    }

    static void promise07RefusesAnEmptyRow() {
        Twins.refuse(Check.IAE, "spoil(0, 5)", Scenes::fresh, x -> x.spoil(0, 5));
        TellTale x = new TellTale();
        x.lie(0, 1, 4);
        x.drop(0);
        Check.iae("spoil(0, 5) of what was dropped", () -> x.spoil(0, 5));
    }

    static void promise07RefusesBehindAFullRow() {
        Twins.refuse(Check.IAE, "spoil(200, 5)", () -> Scenes.manyLetters(200), x -> x.spoil(200, 5));
    }

    // A node sends notes of all that it keeps and has not forwarded yet ...: how many.
    static void promise08OfNothingKept() {
        TellTale x = new TellTale();
        x.lie(0, 1, SILENT);
        for (int node = 0; node < 3; node++) {
            Check.due("forward(" + node + ")", x.forward(node), 0);
        }
        Check.due("letters", x.total(0), 1);
        Check.due("sent", x.total(1), 1);
    }

    static void promise08NotTwice() {
        TellTale x = keepsAll(0);
        x.forward(0);
        Check.due("again", x.forward(0), 0);
        x.lie(3, 0, SILENT);
        x.deliver(x.total(0) - 1);
        Check.due("what is new", x.forward(0), 2);
        Check.due("and again", x.forward(0), 0);
    }

    // in the order in which it kept them, each to the witnesses of the node that signed it, the first and the second
    static void promise08InTheOrderOfKeeping() {
        TellTale x = Scenes.opened(6);
        x.lie(0, 5, SILENT);
        x.lie(2, 5, SILENT);
        x.lie(1, 5, SILENT);
        x.deliver(2);
        x.deliver(0);
        x.deliver(0);
        Check.due("notes", x.forward(5), 6);
        int[] to = {2, 3, 1, 2, 3, 4};
        int[] kept = {1, 1, 1, 2, 2, 1};
        for (int i = 0; i < 6; i++) {
            Check.due("note " + i, x.deliver(0), true);
            Check.due("goes to " + to[i], x.about(to[i], 3), kept[i]);
        }
    }

    static void promise08BehindAllOtherLetters() {
        TellTale x = threeMessages();
        x.lie(0, 3, SILENT);
        x.deliver(3);
        Check.due("notes", x.forward(3), 2);
        Check.due("the first letter", x.drop(0), 1);
        Check.due("the last letter", x.drop(3), 2);
    }

    // WITNESSES of node i are the nodes i + 1 and i + 2, modulo n.
    static void promise08WitnessesOfTheLastNodes() {
        for (int nodes = 4; nodes <= 6; nodes++) {
            TellTale x = Scenes.opened(nodes);
            x.lie(nodes - 1, 2, SILENT);
            x.deliver(0);
            Check.due("notes of the last node's head", x.forward(2), 2);
            x.deliver(0);
            Check.due("kept by 0", x.about(0, 3), 1);
            x.deliver(0);
            Check.due("kept by 1", x.about(1, 3), 1);
            x.lie(nodes - 2, 1, SILENT);
            x.deliver(0);
            Check.due("notes of the last but one", x.forward(1), 2);
            x.deliver(0);
            Check.due("kept by the last", x.about(nodes - 1, 3), 1);
            x.deliver(0);
            Check.due("kept by 0 then", x.about(0, 3), 2);
        }
    }

    // but itself
    static void promise08FirstWitnessSendsToTheSecond() {
        TellTale x = Scenes.opened(4);
        x.lie(3, 0, SILENT);
        x.deliver(0);
        Check.due("forward by the first witness", x.forward(0), 1);
        x.deliver(0);
        Check.due("kept by the second", x.about(1, 3), 1);
    }

    static void promise08SecondWitnessSendsToTheFirst() {
        TellTale x = Scenes.opened(4);
        x.lie(3, 1, SILENT);
        x.deliver(0);
        Check.due("forward by the second witness", x.forward(1), 1);
        x.deliver(0);
        Check.due("kept by the first", x.about(0, 3), 1);
    }

    static void promise08EachNodeOfSix() {
        for (int node = 0; node < 6; node++) {
            TellTale x = keepsAll(node);
            Check.due("notes of " + node, x.forward(node), 8);
            Check.due("sent", x.total(1), 13);
            for (int i = 0; i < 8; i++) {
                Check.due("note " + i, x.deliver(0), true);
            }
            Check.due("kept by itself", x.about(node, 3), 5);
        }
    }

    // (What comes by a note is not forwarded again; what an audit makes it keep is.)
    static void promise08WhatCameByANoteIsNot() {
        TellTale x = Scenes.opened(5);
        x.lie(0, 4, SILENT);
        x.deliver(0);
        x.forward(4);
        x.deliver(0);
        x.deliver(0);
        Check.due("by the first witness", x.forward(1), 0);
        Check.due("by the second witness", x.forward(2), 0);
    }

    static void promise08WhatAnAuditMakesItKeepIs() {
        TellTale x = new TellTale();
        x.input(0, 1);
        x.audit(1, 0);
        Check.due("notes", x.forward(1), 1);
        Check.due("again", x.forward(1), 0);
        Check.due("the note", x.deliver(0), true);
        Check.due("kept by 2", x.about(2, 3), 1);
    }

    static void promise08ByANoteFirstAndAnAuditThen() {
        TellTale x = new TellTale();
        x.input(0, 1);
        x.audit(1, 0);
        x.forward(1);
        x.deliver(0);
        Check.due("audit of what it keeps", x.audit(2, 0), 0);
        Check.due("notes", x.forward(2), 0);
    }

    static void promise08ByANoteFirstAndAMessageThen() {
        TellTale x = new TellTale();
        x.input(0, 2);
        x.audit(2, 0);
        x.forward(2);
        x.deliver(1);
        Check.due("the message of what it keeps", x.deliver(0), true);
        Check.due("notes", x.forward(1), 0);
    }

    static void promise08ByAMessageFirstAndANoteThen() {
        TellTale x = new TellTale();
        x.input(0, 2);
        x.audit(2, 0);
        x.forward(2);
        x.deliver(0);
        Check.due("the note of what it keeps", x.deliver(0), false);
        Check.due("notes", x.forward(1), 1);
    }

    // LETTERS lie in a row of 200 at most, what is sent into a full one is lost.
    static void promise08LostInAFullRow() {
        TellTale x = full(200);
        Check.due("notes, lost ones too", x.forward(4), 4);
        Check.due("letters", x.total(0), 200);
        Check.due("sent, lost ones too", x.total(1), 7);
        x.drop(0);
        Check.due("lost ones are not sent again", x.forward(4), 0);
        Check.due("the last letter is none of them", x.drop(198), 1);
    }

    static void promise08OnePlaceForFourNotes() {
        TellTale x = full(199);
        Check.due("notes, lost ones too", x.forward(4), 4);
        Check.due("letters", x.total(0), 200);
        Check.due("sent, lost ones too", x.total(1), 7);
        Check.due("the one that got in", x.deliver(199), true);
        Check.due("goes to 1", x.about(1, 3), 1);
        Check.due("lost ones are not sent again", x.forward(4), 0);
    }

    static void promise08FourPlacesForFourNotes() {
        TellTale x = full(196);
        Check.due("notes", x.forward(4), 4);
        Check.due("letters", x.total(0), 200);
        for (int i = 0; i < 4; i++) {
            Check.due("the last note", x.deliver(199 - i), true);
        }
        Check.due("kept by 2", x.about(2, 3), 2);
        Check.due("kept by 1", x.about(1, 3), 1);
        Check.due("kept by 3", x.about(3, 3), 1);
    }

    // Node 4 of five keeps a head of 0 and one of 1; there are so many letters, all of 2 to 3.
    private static TellTale full(int letters) {
        TellTale x = Scenes.opened(5);
        x.lie(0, 4, SILENT);
        x.deliver(0);
        x.lie(1, 4, SILENT);
        x.deliver(0);
        x.lie(2, 3, 1);
        for (int i = 1; i < letters; i++) {
            x.copy(0);
        }
        Check.due("letters", x.total(0), letters);
        Check.due("sent", x.total(1), 3);
        return x;
    }

    static void promise08RefusesNoNode() {
        for (int bad : new int[] {-1, 4, 5, 6, Integer.MIN_VALUE, Integer.MAX_VALUE}) {
            Twins.refuse(Check.IAE, "forward(" + bad + ")", Scenes::busy, x -> x.forward(bad));
        }
        Twins.refuse(Check.IAE, "forward(3) of three", Scenes::fresh, x -> x.forward(3));
        Twins.refuse(Check.IAE, "forward(6) of six", () -> keepsAll(5), x -> x.forward(6));
    }
}
