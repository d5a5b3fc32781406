/** The bounds that "Terms" names of members, rolls, notes, ticks, undo and exceptions; of the text: BoundsOfText. */
final class BoundsOfTerms {
    private BoundsOfTerms() {
    }

    static void run() {
        atMostSixMembers();
        placesFrom0To9();
        membersAtFirst();
        aRollIsItsNumberAndCaller();
        aSessionIsTheTimeInOneRoll();
        atMostFourSpeeches();
        notesTake1To10Ticks();
        notesAreLostWhereTheWayIsCut();
        notesAreLostIf150AreUnderWay();
        theLastSpeechIsHeardThoughItsNotesAreLost();
        notesAreLostAtTheOneWhoIsGone();
        notesComeByTimesAndThenAsSent();
        aNoteThatComesIsUnderWayNoMore();
        aSpeechGoesToNoneAndToFive();
        theNumberIsOneMoreThanThePromise();
        speechesOfRollsThatAreNotGreater();
        aSpeechOfAGreaterRollIsKept();
        twelveSpeechesAreKept();
        callsThatAreNotGreater();
        answersToRollsThatAreCalledNoMore();
        theLastAnswerMakesItStand();
        aRollThatStandsAtThePromise();
        keptSpeechesOfRollsThatAreNotGreater();
        fiveSessionsAreRemembered();
        theTimeIs0AtFirst();
        patienceOfAsManyTicks();
        noPatienceIsForEver();
        patienceGoesByNumbers();
        theExceptionThatIsNamedFirst();
        aCallThatThrowsChangesNothing();
        thereIsNoSuchResult();
        the512thCall();
    }

    private static void atMostSixMembers() {
        Document.terms("There are at most 6 members, numbered from 0");
        ClubRolls x = new ClubRolls();
        for (int m = 0; m < 6; m++) {
            Bounds.about(x, "ahead of the member " + m, 0, m);
            int none = m;
            Checks.outside("the member " + m + ", who does not exist yet", () -> x.memberOf(none, 0));
            Checks.due("member(0)", x.member(0), m);
            Bounds.member(x, "the last member", m, 3, m);
        }
        Bounds.about(x, "six", 0, 6);
        Checks.outside("the member 6", () -> x.memberOf(6, 0));
        Bounds.refuses(Bounds.REFUSED, () -> Checks.club("m0m0m0m0m0m0"), "a seventh member", y -> y.member(0));
    }

    private static void placesFrom0To9() {
        Document.terms("each at a place from 0 to 9");
        for (int place = 0; place <= 9; place++) {
            ClubRolls x = new ClubRolls();
            x.member(place);
            Bounds.member(x, "at " + place, 0, 0, place);
        }
        Bounds.refuses(Bounds.WRONG, Bounds::fresh, "member(-1)", x -> x.member(-1));
        Bounds.refuses(Bounds.WRONG, Bounds::fresh, "member(10)", x -> x.member(10));
    }

    private static void membersAtFirst() {
        Document.terms("A member is in one roll, at first in one of its own: with the number 0, itself as the caller, and"
            + " itself alone.", "A member sits (at first), is hushed, or is gone.", "It has a promise, the greatest number"
            + " of a roll of which it has known so far, at first 0.", "What a member has heard in its session is a set of"
            + " these bits, at first empty.");
        ClubRolls x = Checks.club("t05p03");
        for (int m = 0; m < 6; m++) {
            x.member(m);
            int[] due = {m, 0, 0, m, 1 << m, 0, 0, 0, 0, 0, 0, 0};
            for (int what = 0; what <= 11; what++) {
                Bounds.member(x, "at first", m, what, due[what]);
            }
            x.ticks(1);
        }
    }

    private static void aRollIsItsNumberAndCaller() {
        Document.terms("A roll has a number, a caller, and a set of members (bit m for the member m);",
            "two rolls are the same if number and caller are.");
        ClubRolls x = Checks.club("m0m0m0m0m0m0c003c356c204t03s0s3");
        int[] members = {3, 3, 4, 56, 56, 56};
        for (int m = 0; m < 6; m++) {
            Bounds.member(x, "three rolls with the number 1", m, 2, 1);
            Bounds.member(x, "three rolls with the number 1", m, 3, m < 2 ? 0 : m == 2 ? 2 : 3);
            Bounds.member(x, "three rolls with the number 1", m, 4, members[m]);
            Checks.due("lacks(" + m + "), of its own roll alone", x.lacks(m), m == 1 || m > 3 ? 1 : 0);
        }
        Checks.due("together() of one of them", x.together(), 56);
        x = Checks.club("m0m0c003t03c001");
        Checks.due("together() of two rolls with one caller", x.together(), 1);
    }

    private static void aSessionIsTheTimeInOneRoll() {
        Document.terms("A session of a member is the time in which it is in one roll.", "A session that is over is"
            + " remembered, with its roll's number, caller and what was heard;");
        ClubRolls x = Checks.club("m0m0s0s1c003t01");
        Bounds.member(x, "until the roll stands", 0, 11, 0);
        x.ticks(1);
        Bounds.member(x, "the roll stands", 0, 11, 1);
        Checks.due("the number", x.session(0, 0, 0), 0);
        Checks.due("what was heard", x.session(0, 0, 2), 1);
        Bounds.member(x, "until the roll is told", 1, 11, 0);
        Bounds.member(x, "until the roll is told", 1, 5, 16);
        x.ticks(1);
        Bounds.member(x, "the roll is told", 1, 11, 1);
        Bounds.member(x, "in a new session nothing is heard", 1, 5, 0);
        Checks.due("the number", x.session(1, 0, 0), 0);
        Checks.due("the caller", x.session(1, 0, 1), 1);
        Checks.due("what was heard", x.session(1, 0, 2), 16);
        x.say(1);
        x.leave(1);
        Bounds.member(x, "one who is gone is in its session still", 1, 11, 1);
        x.back(1);
        Bounds.member(x, "one who is back is not", 1, 11, 2);
        Checks.due("the number", x.session(1, 1, 0), 1);
        Checks.due("the caller", x.session(1, 1, 1), 0);
        Checks.due("what was heard", x.session(1, 1, 2), 16);
    }

    private static void atMostFourSpeeches() {
        Document.terms("In a session each member makes at most 4 speeches, numbered from 0;",
            "the speech j of the member m is told by the bit 4 * m + j.");
        ClubRolls x = Bounds.oneRoll();
        for (int m = 0; m < 6; m++) {
            for (int j = 0; j < 4; j++) {
                Bounds.member(x, "speeches", m, 7, j);
                Checks.due("say(" + m + ")", x.say(m), 4 * m + j);
            }
            int speaker = m;
            Checks.refused("a fifth speech of " + m, () -> x.say(speaker));
            Bounds.member(x, "speeches", m, 7, 4);
        }
        x.ticks(1);
        for (int m = 0; m < 6; m++) {
            Bounds.member(x, "all 24 are heard", m, 5, 0xFFFFFF);
        }
        x.call(5, 32);
        Bounds.member(x, "speeches in a new session", 5, 7, 0);
        Checks.due("say(5) in a new session", x.say(5), 20);
    }

    private static void notesTake1To10Ticks() {
        Document.terms("A note from a member to another one is under way for as many ticks as their places differ, and 1"
            + " more.");
        int[] places = {0, 0, 9, 9, 5, 4};
        int[] due = {1, 1, 10, 10, 6, 5};
        ClubRolls x = Checks.club("m0m0m9m9m5m4t07c063");
        for (int m = 1; m < 6; m++) {
            for (int k = 0; k < 5; k++) {
                if (x.note(k, 2) == m) {
                    Bounds.note(x, "from the place 0 to " + places[m], k, 3, 7 + due[m]);
                }
            }
        }
        for (int tick = 1; tick <= 10; tick++) {
            x.ticks(1);
            for (int m = 1; m < 6; m++) {
                Bounds.member(x, "behind " + tick + " ticks", m, 6, tick >= due[m] ? 1 : 0);
            }
        }
    }

    private static void notesAreLostWhereTheWayIsCut() {
        Document.terms("It is lost as it is sent if the way between both is cut");
        ClubRolls x = Checks.club("m0m9m9x01c007");
        Bounds.about(x, "one of two is lost as it is sent", 2, 1);
        Bounds.about(x, "one of two is lost as it is sent", 3, 1);
        Bounds.note(x, "the other one", 0, 2, 2);
        x.cut(0, 2, true);
        Bounds.about(x, "the one under way is not lost", 2, 1);
        x.ticks(10);
        Bounds.member(x, "it comes", 2, 6, 1);
        Bounds.about(x, "the answer is lost, the way is cut for both", 3, 2);
        x.cut(1, 0, false);
        x.call(1, 3);
        Bounds.about(x, "a way that is mended loses nothing", 3, 2);
    }

    private static void notesAreLostIf150AreUnderWay() {
        Document.terms("or if 150 notes are under way.");
        ClubRolls x = Bounds.notes149();
        Bounds.about(x, "149", 2, 149);
        Bounds.about(x, "149", 3, 0);
        x.call(0, 3);
        Bounds.about(x, "the note 150", 2, 150);
        Bounds.about(x, "the note 150", 3, 0);
        x.call(0, 3);
        Bounds.about(x, "one more", 2, 150);
        Bounds.about(x, "one more", 3, 1);
        x.cut(0, 1, true);
        x.call(0, 3);
        Bounds.about(x, "one more, whose way is cut, is lost once", 3, 2);
        x = Bounds.notes149();
        x.call(0, 63);
        Bounds.about(x, "five more than 149", 2, 150);
        Bounds.about(x, "five more than 149", 3, 4);
        Bounds.note(x, "the lowest one is sent", 149, 2, 1);
        x.ticks(9);
        Bounds.about(x, "all are under way still", 2, 150);
    }

    private static void theLastSpeechIsHeardThoughItsNotesAreLost() {
        ClubRolls x = Checks.club("m0m9m9m9m9m9c063t30");
        for (int i = 0; i < 23; i++) {
            x.say(i / 4);
        }
        for (int i = 0; i < 7; i++) {
            x.call(0, 63);
        }
        Bounds.about(x, "23 speeches and 7 calls, of 5 notes each", 2, 150);
        Checks.due("say(5)", x.say(5), 23);
        Bounds.member(x, "its own speeches", 5, 5, 15 << 20);
        Bounds.about(x, "the notes of it are lost", 3, 5);
        Bounds.about(x, "and it is a speech", 4, 24);
    }

    private static void notesAreLostAtTheOneWhoIsGone() {
        Document.terms("It is lost as it comes if the one to whom it goes is gone.");
        ClubRolls x = Checks.club("m0m0c003g1");
        Bounds.about(x, "not as it is sent", 2, 1);
        Bounds.about(x, "not as it is sent", 3, 0);
        x.ticks(1);
        Bounds.about(x, "as it comes", 2, 0);
        Bounds.about(x, "as it comes", 3, 1);
        x = Checks.club("m0m0g1c001c003b1t01");
        Bounds.about(x, "gone as it was sent, and back as it comes", 3, 0);
        Bounds.member(x, "the one who is back", 1, 6, 2);
        x = Checks.club("m0m0c003g0t01");
        Bounds.about(x, "the one who sent it is gone", 3, 0);
        Bounds.member(x, "the call comes all the same", 1, 6, 1);
        x.ticks(1);
        Bounds.about(x, "the answer is lost", 3, 1);
    }

    private static void notesComeByTimesAndThenAsSent() {
        Document.terms("Notes come in the order of their times, of several with the same time in the order in which they"
            + " were sent;");
        ClubRolls x = Checks.club("m5m9m5m5c015t04c212");
        Bounds.note(x, "both at the time 5: the call of 0 was sent first", 0, 1, 0);
        Bounds.note(x, "both at the time 5: the call of 2 was sent next", 1, 1, 2);
        Bounds.note(x, "both at the time 5", 0, 3, 5);
        Bounds.note(x, "both at the time 5", 1, 3, 5);
        x = Checks.club("m5m9m5m5c015");
        int[] order = {2, 3, 1};
        for (int k = 0; k < 3; k++) {
            Bounds.note(x, "by times, and then as sent", k, 2, order[k]);
        }
        x = Checks.club("m0m0m0c001c204c003c206t01");
        Bounds.note(x, "the call of 0 was sent first, and is answered", 0, 2, 0);
        Bounds.about(x, "the call of 2 has no greater number then", 2, 1);
        x = Checks.club("m0m0m0c001c204c206c003t01");
        Bounds.note(x, "the call of 2 was sent first, and is answered", 0, 2, 2);
    }

    private static void aNoteThatComesIsUnderWayNoMore() {
        Document.terms("a note that comes is under way no more, ahead of what happens then.");
        ClubRolls x = Checks.club("m0m9m9m9m9m9");
        for (int i = 0; i < 30; i++) {
            x.call(0, 63);
        }
        x.ticks(10);
        Bounds.about(x, "each of the 150 calls makes room for its answer", 2, 150);
        Bounds.about(x, "each of the 150 calls makes room for its answer", 3, 0);
    }

    private static void aSpeechGoesToNoneAndToFive() {
        Document.terms("When a member makes a speech, it has heard it, and a note of the speech is sent to each other"
            + " member of its roll, by numbers.");
        ClubRolls x = Checks.club("m0m0s0");
        Bounds.member(x, "alone, it has heard it", 0, 5, 1);
        Bounds.about(x, "alone", 2, 0);
        x = Bounds.oneRoll();
        x.say(3);
        Bounds.about(x, "of six", 2, 5);
        int[] to = {0, 1, 2, 4, 5};
        for (int k = 0; k < 5; k++) {
            Bounds.note(x, "of six", k, 2, to[k]);
            Bounds.note(x, "of six", k, 5, 12);
            Bounds.member(x, "it is not heard yet", to[k], 5, 0);
        }
        Bounds.member(x, "it has heard it", 3, 5, 1 << 12);
    }

    private static void theNumberIsOneMoreThanThePromise() {
        Document.terms("When anybody calls a roll of some members, itself among them, the number of the roll is 1 more"
            + " than its promise, which becomes that;", "it is hushed;", "it counts as having answered itself, with its"
            + " roll and what it has heard;", "and a call is sent to each other one of them, by numbers.");
        ClubRolls x = Checks.club("m0m0m0");
        Checks.due("the first call", x.call(1, 7), 1);
        Bounds.member(x, "the promise", 1, 6, 1);
        Bounds.member(x, "hushed", 1, 1, 1);
        Bounds.member(x, "those who have answered", 1, 9, 2);
        Bounds.note(x, "by numbers", 0, 2, 0);
        Bounds.note(x, "by numbers", 1, 2, 2);
        Checks.due("the next one", x.call(1, 7), 2);
        x.ticks(1);
        Bounds.member(x, "a promise by a call that came", 2, 6, 2);
        Checks.due("a call of one who is promised 2", x.call(2, 4), 3);
        Bounds.member(x, "its promise", 2, 6, 3);
    }

    private static void speechesOfRollsThatAreNotGreater() {
        Document.terms("A speech of a roll: if the one to whom it comes sits in that roll, it has heard the speech.",
            "otherwise it is too late, and nothing happens.", "(For one who is hushed in that roll it is too late.)");
        ClubRolls x = Checks.club("m0m0c003t03s0t01");
        Bounds.member(x, "who sits in the roll of the speech", 1, 5, 1);
        Bounds.about(x, "who sits in the roll of the speech", 5, 0);
        x = Checks.club("m0m0c003t03s0c103t01");
        Bounds.member(x, "the number is that of the roll, in which it is hushed", 1, 5, 0);
        Bounds.member(x, "the number is that of the roll, in which it is hushed", 1, 10, 0);
        Bounds.about(x, "the number is that of the roll, in which it is hushed", 5, 1);
        x = Checks.club("m0m0c003t03s0c102t01");
        Bounds.member(x, "the number is 1 less", 1, 5, 0);
        Bounds.member(x, "the number is 1 less", 1, 10, 0);
        Bounds.about(x, "the number is 1 less", 5, 1);
    }

    private static void aSpeechOfAGreaterRollIsKept() {
        ClubRolls x = Bounds.keeper(1);
        Bounds.member(x, "the roll of the keeper is 1 less", 5, 2, 0);
        Bounds.member(x, "it is kept", 5, 10, 1);
        Bounds.member(x, "it is not heard", 5, 5, 0);
        Bounds.about(x, "it is not too late", 5, 0);
    }

    private static void twelveSpeechesAreKept() {
        Document.terms("Otherwise, if its number is greater than that of the roll in which that one is, and that one keeps"
            + " fewer than 12, it is kept;");
        int[] spoken = {0, 1, 11, 12, 13, 14};
        for (int said : spoken) {
            ClubRolls x = Bounds.keeper(said);
            Bounds.member(x, "of " + said, 5, 10, Math.min(said, 12));
            Bounds.about(x, "of " + said, 5, Math.max(said - 12, 0));
        }
        ClubRolls x = Bounds.keeper(12);
        x.say(3);
        x.ticks(1);
        Bounds.member(x, "12 are kept ahead of it", 5, 10, 12);
        Bounds.about(x, "12 are kept ahead of it", 5, 1);
    }

    private static void callsThatAreNotGreater() {
        Document.terms("A call of a roll: if its number is greater than the promise, that becomes it, the member is"
            + " hushed, a roll that it called itself is called no more, and it sends an answer to the caller: its roll,"
            + " and what it has heard.", "Otherwise nothing.");
        ClubRolls x = Checks.club("m0m0c102c003t01");
        Bounds.member(x, "a call of 1 to the promise 1", 1, 1, 0);
        Bounds.about(x, "a call of 1 to the promise 1", 2, 0);
        x = Checks.club("m0m0c102c102c003t01");
        Bounds.member(x, "a call of 1 to the promise 2", 1, 6, 2);
        Bounds.about(x, "a call of 1 to the promise 2", 2, 0);
        x = Checks.club("m0m0m0c102c106c001c003t01");
        Bounds.member(x, "a call of 2 to the promise 2: it calls still", 1, 8, 6);
        x = Checks.club("m0m0m0s1c106c001c003t01");
        Bounds.member(x, "a call of 2 to the promise 1", 1, 6, 2);
        Bounds.member(x, "hushed", 1, 1, 1);
        Bounds.member(x, "calling no more", 1, 8, 0);
        Bounds.note(x, "the answer goes to the caller behind that of 2", 1, 2, 0);
        Bounds.note(x, "the answer is one to the roll", 1, 4, 2);
        Bounds.note(x, "the answer tells what it has heard", 1, 5, 16);
    }

    private static void answersToRollsThatAreCalledNoMore() {
        Document.terms("the answers to a roll that it called before do not count any more;",
            "An answer to a roll: if the caller still calls that roll, it counts.");
        ClubRolls x = Checks.club("m0m0m9c007t02");
        Bounds.member(x, "an answer to the roll that is called", 0, 9, 3);
        x.call(0, 7);
        Bounds.member(x, "it does not count for the next roll", 0, 9, 1);
        x = Checks.club("m0m0m9c007t01c007t01");
        Bounds.member(x, "an answer to the roll before", 0, 9, 1);
        x.ticks(1);
        Bounds.member(x, "an answer to this one", 0, 9, 3);
        x = Checks.club("m0m0c003t01c001t01");
        Bounds.about(x, "none is called any more: only the roll of 0 alone stood", 6, 1);
        Bounds.member(x, "none is called any more", 0, 9, 0);
        x = Checks.club("m0m3m0c003t04c204c205t01");
        Bounds.member(x, "a greater call came, and ends its own", 0, 8, 0);
        Bounds.about(x, "the answer to that is under way still", 2, 2);
        x.ticks(60);
        Bounds.member(x, "it does not count", 0, 9, 0);
        Bounds.member(x, "nor did its own roll stand", 0, 3, 2);
    }

    private static void theLastAnswerMakesItStand() {
        Document.terms("When all members of the roll have answered, the roll stands: each of them is told it, with the set"
            + " of all that those who answered with the same roll as that one have heard, together;",
            "the caller at once, a note to each other one, by numbers.");
        ClubRolls x = Checks.club("m0m0m0m0m0m1s0s5c063t03");
        Bounds.member(x, "all but the last one", 0, 9, 31);
        Bounds.about(x, "all but the last one", 6, 0);
        Bounds.member(x, "all but the last one", 0, 1, 1);
        Checks.due("the tick of the last answer", x.ticks(1), 1);
        Bounds.member(x, "the caller is told at once", 0, 2, 1);
        Bounds.member(x, "it is called no more", 0, 8, 0);
        Bounds.about(x, "a note to each other one", 2, 5);
        for (int k = 0; k < 5; k++) {
            Bounds.note(x, "by numbers", k, 0, 3);
            Bounds.note(x, "by numbers", k, 2, k + 1);
            Bounds.note(x, "those who are alone in their roll are told what they heard", k, 5, k == 4 ? 1 << 20 : 0);
        }
        ClubRolls y = Checks.club("m0m0c003t03x01s0s1");
        y.cut(0, 1, false);
        y.call(0, 3);
        y.ticks(2);
        Bounds.note(y, "those who were in the same roll are told it together", 0, 5, 17);
        Checks.due("the caller too", y.session(0, 1, 2), 17);
    }

    /** One that is told the number of its own roll, or of a roll greater than its promise, is beyond all calls. */
    private static void aRollThatStandsAtThePromise() {
        Document.terms("A roll that stands: if its number is not less than the promise, and greater than that of the roll"
            + " in which the member is: what it has heard becomes the set that is told, its session is over, and it sits"
            + " in the new roll, having heard nothing;");
        ClubRolls x = Checks.club("m0m2s1c003t09");
        Bounds.member(x, "the number is the promise", 1, 2, 1);
        Bounds.member(x, "it sits", 1, 1, 0);
        Bounds.member(x, "it has heard nothing", 1, 5, 0);
        Bounds.member(x, "its session is over", 1, 11, 1);
        x = Checks.club("m0m2m2c003t03c204c206t06");
        Bounds.member(x, "the number is 1 less than the promise", 1, 6, 2);
        Bounds.member(x, "it stays in its roll, and is told the next one", 1, 2, 2);
        Checks.due("its one session that is over", x.session(1, 0, 0) + 10 * x.memberOf(1, 11), 10);
        x = Checks.club("m0m2c003t06c102t03");
        Bounds.member(x, "the number is 1 less than that of its roll", 1, 2, 2);
        Bounds.member(x, "nothing more is over", 1, 11, 1);
    }

    /** No calls bring a speech that was kept to be heard, or kept on: a note that the roll stands comes ahead or never. */
    private static void keptSpeechesOfRollsThatAreNotGreater() {
        Document.terms("then speeches that it kept of that roll are heard, and those of rolls with a number that is not"
            + " greater are kept no more.", "Otherwise nothing.");
        ClubRolls x = Bounds.keeper(12);
        x.call(5, 32);
        Bounds.member(x, "it sits in a greater roll", 5, 2, 2);
        Bounds.member(x, "12 are kept no more", 5, 10, 0);
        Bounds.member(x, "none is heard", 5, 5, 0);
        x = Bounds.keeper(1);
        x.call(0, 1);
        x.call(0, 33);
        x.ticks(3);
        Bounds.member(x, "it is told a greater roll", 5, 2, 3);
        Bounds.member(x, "the one is kept no more", 5, 10, 0);
        Bounds.about(x, "not too late", 5, 0);
    }

    private static void fiveSessionsAreRemembered() {
        Document.terms("the latest 5 of each member.");
        ClubRolls x = Checks.club("m0m0");
        int[] said = {4, 1, 0, 3, 2, 1, 4};
        for (int over = 1; over <= 7; over++) {
            for (int i = 0; i < said[over - 1]; i++) {
                x.say(0);
            }
            x.call(0, 1);
            for (int k = 0; k < Math.min(over, 5); k++) {
                int number = Math.max(over - 5, 0) + k;
                Checks.due("the number of the session " + k, x.session(0, k, 0), number);
                Checks.due("what was heard in it", x.session(0, k, 2), (1 << said[number]) - 1);
            }
            Bounds.member(x, "sessions that are over: " + over, 0, 11, Math.min(over, 5));
        }
        Bounds.member(x, "the other one's", 1, 11, 0);
        x.leave(0);
        x.back(0);
        Checks.due("the oldest one is of the roll", x.session(0, 0, 0), 3);
        Checks.due("the latest one, by back(), is of the roll", x.session(0, 4, 0), 7);
    }

    private static void theTimeIs0AtFirst() {
        Document.terms("The time becomes 1 more (it is 0 at first);", "the notes whose time this is come.");
        ClubRolls x = new ClubRolls();
        Bounds.about(x, "at first", 1, 0);
        x.ticks(1);
        Bounds.about(x, "one tick", 1, 1);
        x.ticks(60);
        Bounds.about(x, "61 ticks", 1, 61);
        x = Checks.club("m0m1c003");
        x.ticks(1);
        Bounds.about(x, "a note for the time 2, at 1", 2, 1);
        x.ticks(1);
        Bounds.note(x, "it has come at 2, and its answer is under way", 0, 0, 2);
    }

    private static void patienceOfAsManyTicks() {
        Document.terms("Then, if setting 0 is not 0, each member that calls a roll, by numbers, and has done so for at"
            + " least as many ticks as that: it calls a roll of those who have answered.");
        for (int patience = 1; patience <= 40; patience++) {
            ClubRolls x = Checks.club("t03m0m0x01c003");
            x.set(patience);
            if (patience > 1) {
                Checks.due("ticks, 1 fewer than the patience of " + patience, x.ticks(patience - 1), 0);
            }
            Bounds.member(x, "1 tick ahead of the patience of " + patience, 0, 8, 3);
            Checks.due("the tick of the patience of " + patience, x.ticks(1), 1);
            Bounds.member(x, "alone then", 0, 4, 1);
            Bounds.member(x, "the roll", 0, 2, 2);
        }
        ClubRolls x = Checks.club("m0m0x01c003t60p40");
        Bounds.member(x, "more ticks than that: it waits for the next tick", 0, 8, 3);
        Checks.due("the next tick", x.ticks(1), 1);
        x = Checks.club("m0m3p08c003");
        Checks.due("all answer at the tick of the patience", x.ticks(8), 1);
        Bounds.member(x, "in time, as notes come first", 0, 4, 3);
        x = Checks.club("m0m3p07c003");
        Checks.due("all answer 1 tick too late", x.ticks(8), 1);
        Bounds.member(x, "out of patience", 0, 4, 1);
    }

    private static void noPatienceIsForEver() {
        Document.terms("0: the patience, 0 to 40, at first 0.");
        ClubRolls x = Checks.club("m0m0x01c003");
        Bounds.about(x, "at first", 9, 0);
        for (int i = 0; i < 10; i++) {
            Checks.due("60 ticks without patience", x.ticks(60), 0);
        }
        Bounds.member(x, "it calls still", 0, 8, 3);
        Bounds.member(x, "the same roll", 0, 6, 1);
        Bounds.refuses(Bounds.WRONG, Bounds::busy, "set(-1)", y -> y.set(-1));
        Bounds.refuses(Bounds.WRONG, Bounds::busy, "set(41)", y -> y.set(41));
    }

    private static void patienceGoesByNumbers() {
        ClubRolls x = Checks.club("m0m0m0m0m9c328c019p03t03");
        Bounds.note(x, "3 called first, and 0 calls anew first", 0, 1, 0);
        Bounds.note(x, "then 3", 1, 1, 3);
        Bounds.note(x, "those who have answered", 0, 5, 3);
        Bounds.note(x, "those who have answered", 1, 5, 12);
    }

    /** Each method that names several exceptions, called so that all of them apply that can apply at once. */
    private static void theExceptionThatIsNamedFirst() {
        Document.terms("If several exceptions apply to a call, the one that its description names first is thrown.");
        Bounds.refuses(Bounds.WRONG, () -> Checks.write(Bounds.busy(), "R".repeat(120)), "append(256) to 120",
            x -> x.append(256));
        Bounds.refuses(Bounds.OUTSIDE, Bounds::busy, "memberOf(6, 12)", x -> x.memberOf(6, 12));
        Bounds.refuses(Bounds.OUTSIDE, Bounds::busy, "session(6, 5, 3)", x -> x.session(6, 5, 3));
        Bounds.refuses(Bounds.OUTSIDE, Bounds::busy, "session(5, 5, 3)", x -> x.session(5, 5, 3));
        Bounds.refuses(Bounds.OUTSIDE, Bounds::busy, "note(1, 6)", x -> x.note(1, 6));
        Bounds.refuses(Bounds.WRONG, Bounds::busy, "member(10) as a seventh", x -> x.member(10));
        Bounds.refuses(Bounds.OUTSIDE, Bounds::busy, "call(6, 0)", x -> x.call(6, 0));
        Bounds.refuses(Bounds.WRONG, Bounds::busy, "call(4, 64), who is gone", x -> x.call(4, 64));
        Bounds.refuses(Bounds.OUTSIDE, Bounds::busy, "cut(6, 6, true)", x -> x.cut(6, 6, true));
        Bounds.refuses(Bounds.OUTSIDE, Bounds::busy, "standsIn(6, 0, 2)", x -> x.standsIn(6, 0, 2));
        Bounds.refuses(Bounds.OUTSIDE, Bounds::busy, "compare(0, 6, 2)", x -> x.compare(0, 6, 2));
        Bounds.refuses(Bounds.OUTSIDE, Bounds::fresh, "restore(2), none is saved", x -> x.restore(2));
    }

    /** All calls of Bounds.refuses() look at this: here are some more on states that they do not come to. */
    private static void aCallThatThrowsChangesNothing() {
        Document.terms("IndexOutOfBoundsException means that a member, a note or a session does not exist, or that a save"
            + " slot is not 0 or 1.", "IllegalArgumentException means that another argument is out of its range.",
            "IllegalStateException means what the method says.", "A call that throws an exception changes nothing.");
        Bounds.refuses(Bounds.OUTSIDE, Bounds::notes149, "note(149, 0)", x -> x.note(149, 0));
        Bounds.refuses(Bounds.OUTSIDE, Bounds::notes149, "say(6)", x -> x.say(6));
        Bounds.refuses(Bounds.REFUSED, Bounds::notes149, "say(0)", x -> x.say(0));
        Bounds.refuses(Bounds.WRONG, Bounds::notes149, "call(0, 64)", x -> x.call(0, 64));
        Bounds.refuses(Bounds.WRONG, Bounds::notes149, "ticks(61)", x -> x.ticks(61));
        Bounds.refuses(Bounds.REFUSED, () -> Bounds.keeper(12), "say(5)", x -> x.say(5));
        Bounds.refuses(Bounds.REFUSED, () -> Bounds.keeper(12), "back(5)", x -> x.back(5));
        Bounds.refuses(Bounds.OUTSIDE, () -> Bounds.keeper(12), "leave(6)", x -> x.leave(6));
        Bounds.refuses(Bounds.WRONG, () -> Bounds.keeper(12), "simulate(0, 0)", x -> x.simulate(0, 0));
        Bounds.refuses(Bounds.OUTSIDE, () -> Bounds.keeper(12), "save(2)", x -> x.save(2));
    }

    private static void thereIsNoSuchResult() {
        Document.terms("The constants: NONE = -1: There is no such result.");
        Checks.due("NONE", ClubRolls.NONE, -1);
        Checks.due("errorPosition() without an error", Checks.club("").errorPosition(), -1);
        Checks.due("standsIn() of a roll that does not", Checks.club("m0m0x01").standsIn(0, 3, 0), -1);
        Checks.due("runScript() without a command that fails", new ClubRolls().runScript(1, 50001), -1);
    }

    private static void the512thCall() {
        ClubRolls x = new ClubRolls();
        x.member(0);
        for (int number = 1; number <= 510; number++) {
            Checks.due("the call " + (number + 1), x.call(0, 1), number);
        }
        Checks.due("the call 512", x.memberOf(0, 2), 510);
        ClubRolls y = new ClubRolls();
        for (int i = 1; i <= 511; i++) {
            y.ticks(60);
        }
        Checks.due("the call 512", y.about(1), 30660);
    }
}
