/** What the terms say of notes, rolls, sessions and ticks, as about, memberOf, session, note and ticks tell it. */
public final class RollsTest {
    private RollsTest() {
    }

    public static void main(String[] args) {
        notesTakeAsLongAsPlacesDiffer();
        notesAreLostWhereAWayIsCut();
        notesUnderWayComeAllTheSame();
        notesAreLostBehind150();
        aNoteThatComesMakesRoom();
        notesAreLostAtTheOneWhoIsGone();
        speechesGoToTheRollOnly();
        speechesAreTooLate();
        twelveAreKept();
        keptSpeechesAreDropped();
        aCallThatIsNotGreaterIsNothing();
        aCallHushesAndEndsAnOwnCall();
        anAnswerToAnotherRollDoesNotCount();
        anAnswerTellsWhatWasHeardThen();
        unlikeRollsAreToldUnlikeSets();
        likeRollsAreToldTogether();
        rollsOfOneCallerAreTold();
        aRollThatStandsTooLateIsNothing();
        notesOfOneTickComeAsSent();
        outOfPatienceTheRollIsCalledAnew();
        patienceCountsFromTheCall();
        alonePatienceEndsInARoll();
        patienceGoesByNumbers();
        Checks.end("RollsTest");
    }

    private static void member(ClubRolls x, String when, int m, int what, int due) {
        Checks.due(when + ": memberOf(" + m + ", " + what + ")", x.memberOf(m, what), due);
    }

    private static void notesTakeAsLongAsPlacesDiffer() {
        for (int a = 0; a <= 9; a++) {
            for (int b = 0; b <= 9; b++) {
                ClubRolls x = Checks.club("m" + a + "m" + b + "t05c003");
                int way = Math.max(a - b, b - a) + 1;
                Checks.due("time of a note from " + a + " to " + b, x.note(0, 3), 5 + way);
                if (way > 1) {
                    x.ticks(way - 1);
                }
                member(x, "ahead of its time", 1, 6, 0);
                x.ticks(1);
                member(x, "at its time", 1, 6, 1);
                Checks.due("time of the answer", x.note(0, 3), 5 + 2 * way);
            }
        }
    }

    private static void notesAreLostWhereAWayIsCut() {
        ClubRolls x = Checks.club("m0m0m0m0x01x30");
        x.call(0, 15);
        Checks.due("under way", x.about(2), 1);
        Checks.due("to the one whose way is not cut", x.note(0, 2), 2);
        Checks.due("lost", x.about(3), 2);
        x.cut(0, 2, true);
        x.ticks(1);
        Checks.due("the answer is lost", x.about(3), 3);
        member(x, "the one who answered", 2, 1, 1);
        x.cut(0, 2, false);
        x.ticks(1);
        member(x, "it is not sent again", 0, 9, 1);
    }

    private static void notesUnderWayComeAllTheSame() {
        ClubRolls x = Checks.club("m0m4c003x01");
        x.ticks(5);
        member(x, "the call came", 1, 6, 1);
        Checks.due("the answer is lost", x.about(3), 1);
    }

    /** 30 calls of 5 notes each are under way; of the next call each note is lost, and once only if its way is cut. */
    private static void notesAreLostBehind150() {
        ClubRolls x = Checks.club("m0m9m9m9m9m9");
        for (int i = 1; i <= 30; i++) {
            Checks.due("call(0, 63)", x.call(0, 63), i);
        }
        Checks.due("under way", x.about(2), 150);
        Checks.due("lost", x.about(3), 0);
        Checks.due("the last note is to 5", x.note(149, 2), 5);
        Checks.due("of the roll 30", x.note(149, 4), 30);
        Checks.outside("note(150, 0)", () -> x.note(150, 0));
        Checks.due("call(0, 63)", x.call(0, 63), 31);
        Checks.due("under way", x.about(2), 150);
        Checks.due("lost", x.about(3), 5);
        x.cut(0, 1, true);
        x.call(0, 63);
        Checks.due("lost", x.about(3), 10);
        Checks.due("call(1, 3)", x.call(1, 3), 1);
        Checks.due("lost", x.about(3), 11);
        x.ticks(10);
        Checks.due("four answer 30 calls each", x.about(2), 120);
        Checks.due("1, whose way is cut, answers 29 calls, as it had called a roll 1 itself", x.about(3), 40);
        x.ticks(10);
        member(x, "answers to the rolls 1 to 30 do not count any more", 0, 9, 1);
    }

    private static void aNoteThatComesMakesRoom() {
        ClubRolls x = Checks.club("m0m0m9m9m9m9");
        for (int i = 0; i < 30; i++) {
            x.call(0, 63);
        }
        x.ticks(1);
        Checks.due("30 calls came, 30 answers were sent", x.about(2), 150);
        Checks.due("lost", x.about(3), 0);
        Checks.due("an answer ahead of the calls that are under way", x.note(0, 0), 2);
        Checks.due("to the first roll", x.note(0, 4), 1);
        Checks.due("to the last roll", x.note(29, 4), 30);
    }

    private static void notesAreLostAtTheOneWhoIsGone() {
        ClubRolls x = Checks.club("m0m0m0c007t03");
        x.say(0);
        x.leave(1);
        x.ticks(1);
        Checks.due("lost", x.about(3), 1);
        Checks.due("not too late", x.about(5), 0);
        member(x, "the one who is gone heard nothing", 1, 5, 0);
        member(x, "the other one", 2, 5, 1);
        x.call(0, 7);
        x.ticks(2);
        Checks.due("the call is lost too", x.about(3), 2);
        member(x, "it does not know of the roll", 1, 6, 1);
        member(x, "one of two answered", 0, 9, 5);
        x.leave(0);
        x.call(2, 5);
        x.ticks(1);
        Checks.due("a call to the caller who is gone", x.about(3), 3);
        ClubRolls y = Checks.club("m0m3c003t04g0");
        y.ticks(4);
        Checks.due("the answer that comes to one who is gone", y.about(3), 1);
        y.back(0);
        y.ticks(60);
        Checks.due("no roll stood", y.about(6), 0);
    }

    private static void speechesGoToTheRollOnly() {
        ClubRolls x = Checks.club("m0m0m0m0c013t03");
        Checks.due("members of the roll", x.memberOf(0, 4), 13);
        Checks.due("say(2)", x.say(2), 8);
        Checks.due("notes", x.about(2), 2);
        Checks.due("to the lower one first", x.note(0, 2), 0);
        Checks.due("to the higher one", x.note(1, 2), 3);
        x.leave(3);
        Checks.due("say(0)", x.say(0), 0);
        Checks.due("also to one who is gone", x.about(2), 4);
        x.ticks(1);
        Checks.due("lost", x.about(3), 2);
        member(x, "outside", 1, 5, 0);
        member(x, "inside", 0, 5, 257);
        member(x, "inside", 2, 5, 257);
    }

    /** A speech comes to one who is hushed in its roll, to one who is in a later roll, and to one in another's roll. */
    private static void speechesAreTooLate() {
        ClubRolls x = Checks.club("m0m0c003t03s0c102");
        Checks.due("the one in a later roll", x.memberOf(1, 2), 2);
        x.ticks(1);
        Checks.due("too late", x.about(5), 1);
        member(x, "it is not heard", 1, 5, 0);
        member(x, "it is not kept", 1, 10, 0);
        x = Checks.club("m0m0c003t03s0c103t01");
        member(x, "hushed in the roll of the speech", 1, 1, 1);
        Checks.due("too late", x.about(5), 1);
        member(x, "it is not heard", 1, 5, 0);
        member(x, "it is not kept", 1, 10, 0);
        x = Checks.club("m0m0m0c003t03c204s0");
        x.cut(0, 2, true);
        Checks.due("a speech in another roll with that number goes to its own members", x.about(2), 1);
        x.ticks(1);
        Checks.due("in time", x.about(5), 0);
        x = Checks.club("m0m0c003t03x01c003t03");
        x.say(1);
        Checks.due("the notes of a speech where the way is cut are lost, not late", x.about(5), 0);
    }

    /** All others are in the roll 1; the member 5 is not told that it stands, and so keeps their speeches. */
    private static ClubRolls keeper() {
        ClubRolls x = Checks.club("m0m0m0m0m0m0c063t01x05t01t01");
        x.cut(0, 5, false);
        member(x, "the keeper is not told", 5, 2, 0);
        member(x, "the keeper has answered", 5, 1, 1);
        return x;
    }

    private static void twelveAreKept() {
        ClubRolls x = keeper();
        for (int i = 0; i < 11; i++) {
            x.say(i / 4);
        }
        x.ticks(1);
        member(x, "of 11", 5, 10, 11);
        Checks.due("too late", x.about(5), 0);
        for (int i = 11; i < 15; i++) {
            x.say(i / 4);
        }
        x.ticks(1);
        member(x, "of 15", 5, 10, 12);
        Checks.due("too late", x.about(5), 3);
        member(x, "none is heard", 5, 5, 0);
        x.leave(5);
        member(x, "gone", 5, 10, 0);
        Checks.due("too late stays", x.about(5), 3);
        x.back(5);
        member(x, "back", 5, 10, 0);
        member(x, "back in a roll of its own", 5, 2, 2);
        x.say(3);
        x.ticks(1);
        Checks.due("a speech of the roll 1 to one in the roll 2", x.about(5), 4);
    }

    private static void keptSpeechesAreDropped() {
        ClubRolls x = keeper();
        x.say(0);
        x.say(1);
        x.ticks(1);
        member(x, "kept", 5, 10, 2);
        x.call(5, 32);
        member(x, "in a later roll", 5, 2, 2);
        member(x, "kept", 5, 10, 0);
        member(x, "heard", 5, 5, 0);
        Checks.due("not too late", x.about(5), 0);
    }

    private static void aCallThatIsNotGreaterIsNothing() {
        ClubRolls x = Checks.club("m0m0c102c003");
        x.ticks(1);
        member(x, "the promise", 1, 6, 1);
        member(x, "it sits", 1, 1, 0);
        Checks.due("no answer", x.about(2), 0);
        x = Checks.club("m0m0c102c102c003t01");
        member(x, "a call of the roll 1 to one in the roll 2", 1, 6, 2);
        Checks.due("no answer", x.about(2), 0);
        member(x, "the caller waits", 0, 8, 3);
        x = Checks.club("m0m0c003c102c102t01");
        member(x, "its promise is greater as it comes", 1, 6, 2);
        Checks.due("no answer", x.about(2), 0);
    }

    private static void aCallHushesAndEndsAnOwnCall() {
        ClubRolls x = Checks.club("m0m0m9c106c001c003");
        member(x, "calling", 1, 8, 6);
        x.ticks(1);
        member(x, "hushed", 1, 1, 1);
        member(x, "the promise", 1, 6, 2);
        member(x, "calling no more", 1, 8, 0);
        member(x, "none answered", 1, 9, 0);
        x.ticks(60);
        Checks.due("the roll of 0 stood, and the one of 1 did not", x.about(6), 2);
        member(x, "2 has answered and is not told", 2, 1, 1);
        member(x, "its answer, which comes when 1 calls no more, does not count", 1, 9, 0);
        ClubRolls y = Checks.club("m0m0m9c106c003t02");
        member(y, "a call with the number of one's own call", 1, 8, 6);
        member(y, "the other caller waits too", 0, 9, 1);
    }

    private static void anAnswerToAnotherRollDoesNotCount() {
        ClubRolls x = Checks.club("m0m2m9c003t03");
        x.call(0, 7);
        x.ticks(3);
        member(x, "the answer to the roll 1 while the roll 2 is called", 0, 9, 1);
        x.ticks(3);
        member(x, "the answer to the roll 2", 0, 9, 3);
        member(x, "the promise of the one who answered twice", 1, 6, 2);
        x = Checks.club("m0m2c003t03c001t60");
        Checks.due("only the roll that was called alone stood", x.about(6), 1);
        member(x, "the one who answered waits", 1, 1, 1);
    }

    /** The answer carries what its sender had heard and its roll as it was sent, not as it comes. */
    private static void anAnswerTellsWhatWasHeardThen() {
        ClubRolls x = Checks.club("m0m4m4s1c003t05");
        Checks.due("the answer tells", x.note(0, 5), 16);
        x.leave(1);
        x.back(1);
        x.say(1);
        x.ticks(5);
        Checks.due("the roll stood", x.about(6), 1);
        Checks.due("what is told to the one who is elsewhere now", x.note(0, 5), 16);
        x.ticks(5);
        member(x, "it stays in its later roll", 1, 3, 1);
    }

    private static void unlikeRollsAreToldUnlikeSets() {
        ClubRolls x = Checks.club("m0m0m0s0s1s1s2c007t02");
        Checks.due("stood", x.about(6), 1);
        Checks.due("told to the caller", x.session(0, 0, 2), 1);
        Checks.due("told to 1", x.note(0, 5), 48);
        Checks.due("told to 2", x.note(1, 5), 256);
    }

    /** 0 and 1 were in the same roll and heard unlike speeches; 2 has the same number from another caller. */
    private static void likeRollsAreToldTogether() {
        ClubRolls x = Checks.club("m0m0m0c003t03c204x01s0s1s2x02");
        x.cut(0, 1, false);
        x.cut(0, 2, false);
        member(x, "heard by 0", 0, 5, 1);
        member(x, "heard by 1", 1, 5, 16);
        x.call(0, 7);
        x.ticks(2);
        Checks.due("told to the caller", x.session(0, 1, 2), 17);
        Checks.due("told to 1", x.note(0, 5), 17);
        Checks.due("told to 2", x.note(1, 5), 256);
        x.ticks(1);
        Checks.due("the session of 1 is over", x.session(1, 1, 2), 17);
        Checks.due("the session of 2 is over", x.session(2, 1, 2), 256);
        Checks.due("its number", x.session(2, 1, 0), 1);
        Checks.due("its caller", x.session(2, 1, 1), 2);
        member(x, "all in the new roll", 2, 2, 2);
        member(x, "all in the new roll", 2, 3, 0);
        member(x, "nothing is heard in it", 0, 5, 0);
        member(x, "no speech is made in it", 0, 7, 0);
    }

    /** 1 stays in the roll 1 of 0, who is in the roll 2 of its own: they are not told of each other's speeches. */
    private static void rollsOfOneCallerAreTold() {
        ClubRolls x = Checks.club("m0m0c003t03c001s1s0s0t01c003t02");
        Checks.due("told to the caller", x.session(0, 2, 2), 3);
        Checks.due("the roll of that session", x.session(0, 2, 0), 2);
        Checks.due("told to 1", x.note(0, 5), 16);
    }

    private static void aRollThatStandsTooLateIsNothing() {
        ClubRolls x = Checks.club("m0m2c003t06");
        Checks.due("it stands", x.about(6), 1);
        x.call(1, 2);
        x.ticks(3);
        member(x, "a roll that is told to one in a later roll", 1, 2, 2);
        member(x, "its sessions", 1, 11, 1);
        x = Checks.club("m0m2m3c003t06c204");
        x.call(2, 6);
        x.ticks(2);
        member(x, "a greater roll is promised", 1, 6, 2);
        x.ticks(1);
        Checks.due("no note is under way but the answer to the greater roll", x.about(2), 1);
        member(x, "it is in its old roll", 1, 2, 0);
        member(x, "it is hushed", 1, 1, 1);
        member(x, "no session is over", 1, 11, 0);
        x.ticks(3);
        member(x, "it sits in the greater roll", 1, 2, 2);
        Checks.due("rolls that stood", x.about(6), 3);
    }

    /** The call comes ahead of the speech that was sent behind it, though both come at one time. */
    private static void notesOfOneTickComeAsSent() {
        ClubRolls x = Checks.club("m0m0m0c007t03");
        x.call(2, 4);
        x.call(2, 6);
        x.say(0);
        x.ticks(1);
        Checks.due("too late for 1, who is hushed, and for 2", x.about(5), 2);
        x = Checks.club("m0m0m0c007t03s0");
        x.call(2, 6);
        x.ticks(1);
        Checks.due("too late for 2 alone", x.about(5), 1);
        member(x, "1 heard it and is hushed", 1, 5, 1);
        member(x, "1 heard it and is hushed", 1, 1, 1);
        Checks.due("its answer tells it", x.note(0, 5), 1);
    }

    private static void outOfPatienceTheRollIsCalledAnew() {
        ClubRolls x = Checks.club("m0m0m9s1c007p05t04");
        member(x, "patient", 0, 9, 3);
        member(x, "patient", 0, 6, 1);
        Checks.due("ticks(1)", x.ticks(1), 0);
        member(x, "called anew", 0, 6, 2);
        member(x, "of those who have answered", 0, 8, 3);
        member(x, "answered by itself", 0, 9, 1);
        Checks.due("the call to the one who answered", x.note(0, 2), 1);
        Checks.due("its time", x.note(0, 3), 6);
        Checks.due("its number", x.note(0, 4), 2);
        Checks.due("the members of the roll", x.note(0, 5), 3);
        Checks.due("ticks(2)", x.ticks(2), 1);
        member(x, "it stands", 0, 2, 2);
        member(x, "without the one who is late", 0, 4, 3);
        Checks.due("what is told to 1", x.note(0, 5), 16);
        x.ticks(60);
        member(x, "the one who is shut out is hushed", 2, 1, 1);
        member(x, "and promised the roll 1", 2, 6, 1);
    }

    private static void patienceCountsFromTheCall() {
        ClubRolls x = Checks.club("t07m0m9p03c003t02");
        member(x, "two ticks", 0, 8, 3);
        x.ticks(1);
        member(x, "three ticks: it sits alone", 0, 2, 2);
        x = Checks.club("m0m9c003t09");
        x.set(3);
        member(x, "a setting that is over already waits for a tick", 0, 8, 3);
        Checks.due("ticks(1)", x.ticks(1), 1);
        member(x, "at the tick", 0, 2, 2);
        x = Checks.club("m0m9p03c003t02c003t02");
        member(x, "a call anew counts anew", 0, 8, 3);
        x.set(0);
        x.ticks(3);
        member(x, "0 is no patience at all", 0, 8, 3);
        x = Checks.club("m0m0p02c003t01");
        Checks.due("an answer at the last tick is in time", x.ticks(1), 1);
        member(x, "in the roll 1", 0, 2, 1);
        x = Checks.club("m0m0p01c003");
        Checks.due("an answer behind the last tick is not", x.ticks(1), 1);
        member(x, "in the roll 2", 0, 2, 2);
        member(x, "alone", 0, 4, 1);
    }

    private static void alonePatienceEndsInARoll() {
        ClubRolls x = Checks.club("m0m0x01s0c003p04");
        Checks.due("ticks(3)", x.ticks(3), 0);
        Checks.due("ticks(1)", x.ticks(1), 1);
        member(x, "it sits", 0, 1, 0);
        member(x, "alone", 0, 4, 1);
        member(x, "in the roll 2", 0, 2, 2);
        Checks.due("the session of the roll 0", x.session(0, 0, 0), 0);
        Checks.due("as it was heard", x.session(0, 0, 2), 1);
        Checks.due("ticks(60)", x.ticks(60), 0);
    }

    /** Both are out of patience at one tick: 0 calls first, so that its note is sent first; it comes a tick later. */
    private static void patienceGoesByNumbers() {
        ClubRolls x = Checks.club("m0m0m0m0m9");
        x.call(3, 28);
        x.call(0, 19);
        x.set(3);
        x.ticks(2);
        member(x, "0 is answered by 1", 0, 9, 3);
        member(x, "3 is answered by 2", 3, 9, 12);
        x.ticks(1);
        Checks.due("sent first", x.note(0, 1), 0);
        Checks.due("to", x.note(0, 2), 1);
        Checks.due("sent next", x.note(1, 1), 3);
        Checks.due("to", x.note(1, 2), 2);
        Checks.due("the roll of 0", x.note(0, 4), 2);
        Checks.due("the roll of 3", x.note(1, 4), 2);
        Checks.due("ticks(2), both stand", x.ticks(2), 2);
    }
}
