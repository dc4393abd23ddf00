import java.util.Arrays;

/** Two families in one house from opposite sides of a wire; the document's promises 1 to 51. */
public final class SoldHouse {
    public static final int NONE = -1;

    /** "None such" and "not the same in all", where NONE has a meaning of its own. */
    private static final int OTHER_NONE = -2;

    private static final int MAX_TEXT = 1600;
    private static final int FED = 20;
    private static final int MAX_ROOMS = 8;
    private static final int MAX_DOORS = 12;
    private static final int MAX_THINGS = 6;
    private static final int MAX_CREAKS = 9;
    private static final int MAX_DEPTH = 99;
    private static final int MAX_SURE = 100;
    private static final int NO_WAY = 9;
    private static final int LAST_DAY = 999;
    private static final int MOST_ODDS = 4;
    private static final int MOST_AHEAD = 60;
    private static final int MINUTES = 8;

    private Plan plan = new Plan();
    private Plan draft = new Plan();
    private final Tape tape = new Tape();
    private final Reader reader = new Reader(tape, draft);
    private final Floor floor = new Floor(plan);
    private final Routes routes = new Routes(floor);
    private final Hunter hunter = new Hunter(floor);
    private final Memory memory = new Memory(floor);
    private final Trader trader = new Trader(memory);
    private final Night night = new Night(floor);

    public SoldHouse() {
        takeUp();
    }

    public int feed(int a, int b, int c, int d, int e) {
        if (tape.size > MAX_TEXT - FED) {
            return NONE;
        }
        tape.put(a);
        tape.put(b);
        tape.put(c);
        tape.put(d);
        tape.put(e);
        return tape.size;
    }

    public int end(int n) {
        if (n < 0 || n > tape.size) {
            return NONE;
        }
        tape.size = n;
        return n;
    }

    public int house() {
        draft.clear();
        if (!reader.readInto(draft)) {
            return NONE;
        }
        Plan old = plan;
        plan = draft;
        draft = old;
        tape.size = 0;
        takeUp();
        return plan.rooms;
    }

    public int fault(int what) {
        switch (what) {
            case 0: return reader.fault;
            case 1: return reader.faultPlace;
            default: return NONE;
        }
    }

    public int room(int room, int what) {
        if (!isRoom(room)) {
            return NONE;
        }
        switch (what) {
            case 0: return plan.creaks[room];
            case 1: return floor.next[room];
            case 2: return memory.thingsWith(Memory.IN, room);
            case 3: return memory.thingsWith(Memory.THINK, room);
            default: return NONE;
        }
    }

    public int thing(int thing, int what) {
        if (!isThing(thing)) {
            return OTHER_NONE;
        }
        switch (what) {
            case 0: return memory.now[Memory.IN + thing];
            case 1: return memory.now[Memory.THINK + thing];
            case 2: return memory.now[Memory.OURS + thing];
            case 3: return plan.us[thing];
            case 4: return plan.them[thing];
            case 5: return memory.now[Memory.DEPTH + thing];
            case 6: return memory.now[Memory.SPOKE + thing];
            case 7: return memory.sureOf(memory.now, thing, memory.now[Memory.DAYS]);
            default: return OTHER_NONE;
        }
    }

    public int door(int door, int what) {
        if (!isDoor(door)) {
            return NONE;
        }
        switch (what) {
            case 0: return plan.doorFrom[door];
            case 1: return plan.doorTo[door];
            case 2: return floor.parting >> door & 1;
            case 3: return floor.near[door];
            default: return NONE;
        }
    }

    public int far(int room, int other) {
        if (!isRoom(room) || !isRoom(other)) {
            return NONE;
        }
        return floor.farOf(room, other);
    }

    public int tell(int thing) {
        if (!isThing(thing)) {
            return NONE;
        }
        memory.speak(thing, Memory.WE);
        memory.keepAct();
        return memory.isRight(memory.now, thing) ? 1 : 0;
    }

    public int hear(int thing) {
        if (!isThing(thing)) {
            return NONE;
        }
        memory.speak(thing, Memory.THEY);
        memory.now[Memory.THINK + thing] = memory.now[Memory.IN + thing];
        memory.keepAct();
        return memory.now[Memory.IN + thing];
    }

    public int carry(int thing, int door) {
        if (!isThing(thing) || !isDoor(door)) {
            return NONE;
        }
        int behind = plan.behind(door, memory.now[Memory.IN + thing]);
        if (behind == NONE) {
            return NONE;
        }
        memory.bring(thing, behind);
        memory.keepAct();
        return behind;
    }

    public int send(int thing) {
        if (!isThing(thing)) {
            return NONE;
        }
        memory.now[Memory.OURS + thing] = 1 - memory.now[Memory.OURS + thing];
        memory.keepAct();
        return memory.now[Memory.OURS + thing];
    }

    public int day() {
        if (memory.now[Memory.DAYS] >= LAST_DAY) {
            return NONE;
        }
        int slipped = memory.passDay(memory.now);
        memory.keepAct();
        return slipped;
    }

    public boolean undo() {
        return memory.stepBack();
    }

    public boolean redo() {
        return memory.stepOn();
    }

    public int way(int room, int other) {
        routes.lying = 0;
        if (!isRoom(room) || !isRoom(other)) {
            return NONE;
        }
        return routes.layWay(room, other);
    }

    public int quiet(int room, int other) {
        routes.lying = 0;
        if (!isRoom(room) || !isRoom(other)) {
            return NONE;
        }
        return routes.layQuiet(room, other);
    }

    public int ways(int room, int other) {
        if (!isRoom(room) || !isRoom(other)) {
            return NONE;
        }
        return routes.countWays(room, other);
    }

    public int pieces() {
        return floor.countPieces();
    }

    public int parts() {
        return floor.parting;
    }

    public int hunt(int set) {
        if (set == 0 || !areRooms(set)) {
            return NONE;
        }
        return hunter.fewestAsks(set);
    }

    public int first(int set) {
        if (set == 0 || !areRooms(set)) {
            return NONE;
        }
        return hunter.firstDoor(set);
    }

    public int meet(int room, int other, int what) {
        if (!isRoom(room) || !isRoom(other)) {
            return NONE;
        }
        int place = floor.meetingRoom(room, other);
        if (place == NONE) {
            return NONE;
        }
        switch (what) {
            case 0: return floor.minutesTo(place, room, other);
            case 1: return place;
            default: return NONE;
        }
    }

    public int bar(int room, int other, int what) {
        if (!isRoom(room) || !isRoom(other)) {
            return NONE;
        }
        int set = floor.barringRooms(room, other);
        if (set == NONE) {
            return NONE;
        }
        switch (what) {
            case 0: return Integer.bitCount(set);
            case 1: return set;
            default: return NONE;
        }
    }

    public int tour(int room, int set) {
        routes.lying = 0;
        if (!isRoom(room) || !areRooms(set)) {
            return NONE;
        }
        return routes.layTour(room, set);
    }

    public int centre() {
        return floor.middleRoom();
    }

    public int nooks() {
        int set = 0;
        for (int room = 0; room < plan.rooms; room++) {
            if (Integer.bitCount(floor.next[room]) <= 1) {
                set |= 1 << room;
            }
        }
        return set;
    }

    public int echo(int room, int far) {
        if (!isRoom(room) || far < 0 || far > MAX_ROOMS) {
            return NONE;
        }
        int creaks = 0;
        for (int other = 0; other < plan.rooms; other++) {
            int away = floor.farOf(room, other);
            if (away != NONE && away <= far) {
                creaks += plan.creaks[other];
            }
        }
        return creaks;
    }

    public int mend(int doors) {
        if (doors < 0 || doors > 99) {
            return NONE;
        }
        return memory.mostMended(doors);
    }

    public int regret() {
        return trader.betterElsewhere();
    }

    public int trade(int what) {
        int pair = trader.bestPair();
        if (pair == NONE) {
            return NONE;
        }
        int mine = pair / MAX_THINGS;
        int yours = pair % MAX_THINGS;
        switch (what) {
            case 0: return trader.gainOf(mine, yours);
            case 1: return mine;
            case 2: return yours;
            default: return NONE;
        }
    }

    public int trades() {
        return trader.mostTrades();
    }

    public int wealth(int family) {
        switch (family) {
            case 0: return trader.worthOf(1, plan.us);
            case 1: return trader.worthOf(0, plan.them);
            default: return NONE;
        }
    }

    public int off() {
        int doors = 0;
        for (int thing = 0; thing < plan.things; thing++) {
            doors += memory.farOff(memory.now, thing);
        }
        return doors;
    }

    public int right() {
        return memory.rightThings(memory.now);
    }

    public int deep(int n) {
        if (n < 0 || n > MAX_DEPTH) {
            return NONE;
        }
        int set = 0;
        for (int thing = 0; thing < plan.things; thing++) {
            if (memory.now[Memory.DEPTH + thing] >= n) {
                set |= 1 << thing;
            }
        }
        return set;
    }

    public int stay(int thing, int n, int part) {
        if (!isThing(thing) || n < 0 || n > MOST_ODDS || part < 0 || part > 1) {
            return NONE;
        }
        return memory.oddsToStay(thing, n, part);
    }

    public int will(int thing, int n) {
        if (!isThing(thing) || n < 0 || n > MOST_AHEAD) {
            return NONE;
        }
        return memory.thoughtBehind(thing, n);
    }

    public int lost() {
        return memory.daysTillLost();
    }

    public int lies(int i) {
        return i < 0 || i >= routes.lying ? NONE : routes.lie[i];
    }

    public int heard(int minute, int creaks, boolean is) {
        if (creaks < 0 || creaks > MAX_CREAKS || !isMinute(minute)) {
            return NONE;
        }
        return night.note(minute, floor.creakingRooms(creaks), is);
    }

    public int seen(int minute, int room, boolean is) {
        if (!isRoom(room) || !isMinute(minute)) {
            return NONE;
        }
        return night.note(minute, 1 << room, is);
    }

    public boolean untell(int heard) {
        return night.takeBack(heard);
    }

    public int later(int by) {
        return night.moveOn(by);
    }

    public int walks(int k) {
        return night.countWalks(k);
    }

    public int certain(int minute, int k) {
        if (!isMinute(minute) || night.countWalks(k) == 0) {
            return NONE;
        }
        return night.onlyRoom(minute);
    }

    public int ask(int what, int k) {
        if (night.countWalks(k) == 0) {
            return NONE;
        }
        int minute = night.bestMinute();
        switch (what) {
            case 0: return minute;
            case 1: return night.mostLeft(minute);
            default: return NONE;
        }
    }

    public int image(int box) {
        return memory.putInBox(box);
    }

    public int back(int box) {
        return memory.takeFromBox(box);
    }

    public int about(int what) {
        switch (what) {
            case 0: return plan.rooms;
            case 1: return plan.doors;
            case 2: return plan.things;
            case 3: return memory.now[Memory.DAYS];
            case 4: return memory.now[Memory.SEED];
            case 5: return memory.done;
            case 6: return memory.undone;
            case 7: return night.count;
            case 8: return night.time;
            case 9: return tape.size;
            case 10: return plan.sure.units;
            case 11: return routes.lying;
            default: return NONE;
        }
    }

    /** All that is not the text itself begins anew with a HOUSE; only the TIME goes on. */
    private void takeUp() {
        floor.build(plan);
        memory.begin();
        night.count = 0;
        routes.lying = 0;
    }

    private boolean isRoom(int room) {
        return room >= 0 && room < plan.rooms;
    }

    private boolean isThing(int thing) {
        return thing >= 0 && thing < plan.things;
    }

    private boolean isDoor(int door) {
        return door >= 0 && door < plan.doors;
    }

    private boolean areRooms(int set) {
        return set >= 0 && set < 1 << plan.rooms;
    }

    private static boolean isMinute(int minute) {
        return minute >= 0 && minute < MINUTES;
    }

    /** The bytes that are fed. */
    private static final class Tape {
        final byte[] bytes = new byte[MAX_TEXT];
        int size;

        void put(int four) {
            for (int shift = 24; shift >= 0; shift -= 8) {
                if (size < MAX_TEXT) {
                    bytes[size] = (byte) (four >> shift);
                    size++;
                }
            }
        }
    }

    /** Cuts the TAPE into TOKENS one at a time, so that a FAULT further on never hides one ahead of it. */
    private static final class Tokens {
        static final int END = 0;
        static final int WORD = 1;
        static final int NUMBER = 2;
        static final int SIGN = 3;
        static final int NO_TOKEN = 4;

        /** The words that stand for themselves, numbered below in this order. */
        static final String OWN = "room creaks door thing in was ours us them sure draw or and not far told day ";
        static final int OWN_WORDS = 17;
        static final int ROOM = 0;
        static final int CREAKS = 1;
        static final int DOOR = 2;
        static final int THING = 3;
        static final int IN = 4;
        static final int WAS = 5;
        static final int OURS = 6;
        static final int US = 7;
        static final int THEM = 8;
        static final int SURE = 9;
        static final int DRAW = 10;
        static final int OR = 11;
        static final int AND = 12;
        static final int NOT = 13;
        static final int FAR = 14;
        static final int TOLD = 15;
        static final int DAY = 16;

        static final String SIGNS = ";()<>=+-*/%";
        static final int LONGEST_WORD = 8;
        static final int LONGEST_NUMBER = 4;

        final Tape tape;
        final long[] own = new long[OWN_WORDS];
        int kind;
        int place;
        int behind;
        /** A word's letters, five bits each, so that words are compared as numbers. */
        long word;
        /** An own word's number (NONE: a NAME), what a number tells, or a sign's character. */
        int value;

        Tokens(Tape tape) {
            this.tape = tape;
            int filled = 0;
            long letters = 0;
            for (int i = 0; i < OWN.length(); i++) {
                if (OWN.charAt(i) != ' ') {
                    letters = withLetter(letters, OWN.charAt(i));
                } else if (filled < OWN_WORDS) {
                    own[filled] = letters;
                    filled++;
                    letters = 0;
                }
            }
        }

        void begin() {
            behind = 0;
            advance();
        }

        void advance() {
            while (behind < tape.size && isBlank(tape.bytes[behind])) {
                behind++;
            }
            place = behind;
            if (behind >= tape.size) {
                kind = END;
            } else if (isLetter(tape.bytes[behind])) {
                readWord();
            } else if (isDigit(tape.bytes[behind])) {
                readNumber();
            } else {
                readSign();
            }
        }

        boolean isName() {
            return kind == WORD && value == NONE;
        }

        boolean isOwn(int number) {
            return kind == WORD && value == number;
        }

        boolean isSign(char sign) {
            return kind == SIGN && value == sign;
        }

        private void readWord() {
            word = 0;
            while (behind < tape.size && isLetter(tape.bytes[behind])) {
                word = withLetter(word, tape.bytes[behind]);
                behind++;
            }
            kind = behind - place <= LONGEST_WORD ? WORD : NO_TOKEN;
            value = numberOfOwn();
        }

        private void readNumber() {
            value = 0;
            while (behind < tape.size && isDigit(tape.bytes[behind])) {
                value = value * 10 + tape.bytes[behind] - '0';
                behind++;
            }
            boolean letterBehind = behind < tape.size && isLetter(tape.bytes[behind]);
            kind = behind - place <= LONGEST_NUMBER && !letterBehind ? NUMBER : NO_TOKEN;
        }

        private void readSign() {
            value = tape.bytes[behind];
            behind++;
            kind = value > 0 && SIGNS.indexOf((char) value) >= 0 ? SIGN : NO_TOKEN;
        }

        private int numberOfOwn() {
            for (int i = 0; i < OWN_WORDS; i++) {
                if (own[i] == word) {
                    return i;
                }
            }
            return NONE;
        }

        private static long withLetter(long letters, int letter) {
            return letters * 32 + (letter - 'a' + 1);
        }

        private static boolean isBlank(int c) {
            return c == 32 || c == 10;
        }

        private static boolean isLetter(int c) {
            return c >= 'a' && c <= 'z';
        }

        private static boolean isDigit(int c) {
            return c >= '0' && c <= '9';
        }
    }

    /** A sure, as steps for a stack: numbers stand for themselves, all else is below 0. */
    private static final class Formula {
        static final int MAX_UNITS = 60;
        static final int MAX_UNITS_IN_ONE = 30;
        /** Far above 30 units, 29 joins of two, and 7 nots ahead of each unit. */
        static final int MAX_STEPS = 400;

        static final int US = -1;
        static final int THEM = -2;
        static final int FAR = -3;
        static final int TOLD = -4;
        static final int DAY = -5;
        static final int NOT = -6;
        static final int OR = -7;
        static final int AND = -8;
        static final int LESS = -9;
        static final int MORE = -10;
        static final int EQUAL = -11;
        static final int PLUS = -12;
        static final int MINUS = -13;
        static final int TIMES = -14;
        static final int OVER = -15;
        static final int REST = -16;

        final int[] steps = new int[MAX_STEPS];
        final int[] stack = new int[MAX_UNITS + 1];
        final int[] known = new int[5];
        int size;
        int units;
        boolean told;

        void clear() {
            size = 0;
            units = 0;
            told = false;
        }

        void put(int step) {
            if (size < MAX_STEPS) {
                steps[size] = step;
                size++;
            }
        }

        void know(int us, int them, int far, int depth, int day) {
            known[0] = us;
            known[1] = them;
            known[2] = far;
            known[3] = depth;
            known[4] = day;
        }

        int work() {
            int top = 0;
            for (int i = 0; i < size; i++) {
                int step = steps[i];
                if (step > NOT) {
                    if (top < stack.length) {
                        stack[top] = step >= 0 ? step : known[US - step];
                        top++;
                    }
                } else if (step == NOT) {
                    if (top > 0) {
                        stack[top - 1] = stack[top - 1] == 0 ? 1 : 0;
                    }
                } else if (top > 1) {
                    top--;
                    stack[top - 1] = join(step, stack[top - 1], stack[top]);
                }
            }
            return top > 0 ? stack[0] : 0;
        }

        private static int join(int step, int a, int b) {
            switch (step) {
                case OR: return a != 0 || b != 0 ? 1 : 0;
                case AND: return a != 0 && b != 0 ? 1 : 0;
                case LESS: return a < b ? 1 : 0;
                case MORE: return a > b ? 1 : 0;
                case EQUAL: return a == b ? 1 : 0;
                case PLUS: return a + b;
                case MINUS: return a - b;
                case TIMES: return a * b;
                case OVER: return b == 0 ? 0 : a / b;
                case REST: return b == 0 ? 0 : a % b;
                default: return 0;
            }
        }
    }

    /** A HOUSE as its text tells it; no ACT changes it. */
    private static final class Plan {
        int rooms;
        final long[] roomName = new long[MAX_ROOMS];
        final int[] creaks = new int[MAX_ROOMS];
        int doors;
        final int[] doorFrom = new int[MAX_DOORS];
        final int[] doorTo = new int[MAX_DOORS];
        int things;
        final long[] thingName = new long[MAX_THINGS];
        final int[] in = new int[MAX_THINGS];
        final int[] was = new int[MAX_THINGS];
        final int[] ours = new int[MAX_THINGS];
        final int[] us = new int[MAX_THINGS];
        final int[] them = new int[MAX_THINGS];
        final Formula sure = new Formula();
        int draw;
        boolean drawTold;

        void clear() {
            rooms = 0;
            doors = 0;
            things = 0;
            sure.clear();
            draw = 0;
            drawTold = false;
        }

        int roomNamed(long name) {
            for (int room = 0; room < rooms; room++) {
                if (roomName[room] == name) {
                    return room;
                }
            }
            return NONE;
        }

        boolean hasThingNamed(long name) {
            for (int thing = 0; thing < things; thing++) {
                if (thingName[thing] == name) {
                    return true;
                }
            }
            return false;
        }

        boolean hasDoorOf(int room, int other) {
            for (int door = 0; door < doors; door++) {
                if (behind(door, room) == other) {
                    return true;
                }
            }
            return false;
        }

        /** The other ROOM of a DOOR; NONE if it is no DOOR of the one. */
        int behind(int door, int room) {
            if (doorFrom[door] == room) {
                return doorTo[door];
            }
            return doorTo[door] == room ? doorFrom[door] : NONE;
        }
    }

    /** Reads a text into a Plan and keeps the first FAULT. A method that answers false or NONE has met it. */
    private static final class Reader {
        static final int BAD_TOKEN = 1;
        static final int MISPLACED = 2;
        static final int TOLD_ALREADY = 3;
        static final int BAD_NUMBER = 4;
        static final int NO_ROOM = 5;

        static final int MOST_WORTH = 50;
        static final int MOST_DRAW = 999;
        /** How many ( e ) and ones behind not may stand open at once. */
        static final int DEEPEST = 7;
        static final int NOT_A_STEP = -99;

        final Tokens tokens;
        Plan plan;
        int fault;
        int faultPlace = NONE;

        Reader(Tape tape, Plan empty) {
            tokens = new Tokens(tape);
            plan = empty;
        }

        boolean readInto(Plan empty) {
            plan = empty;
            fault = 0;
            faultPlace = NONE;
            tokens.begin();
            boolean fine = true;
            for (int lines = 0; lines < MAX_TEXT && fine && tokens.kind != Tokens.END; lines++) {
                switch (tokens.kind == Tokens.WORD ? tokens.value : NONE) {
                    case Tokens.ROOM: fine = readRoom(); break;
                    case Tokens.DOOR: fine = readDoor(); break;
                    case Tokens.THING: fine = readThing(); break;
                    case Tokens.SURE: fine = readSure(); break;
                    case Tokens.DRAW: fine = readDraw(); break;
                    default: fine = refuse(MISPLACED); break;
                }
                fine = fine && readSign(';');
            }
            return fine;
        }

        private boolean readRoom() {
            if (plan.rooms >= MAX_ROOMS) {
                return refuse(MISPLACED);
            }
            tokens.advance();
            if (!tokens.isName()) {
                return refuse(MISPLACED);
            }
            if (plan.roomNamed(tokens.word) != NONE) {
                return refuse(TOLD_ALREADY);
            }
            plan.roomName[plan.rooms] = tokens.word;
            tokens.advance();
            int creaks = readNumberBehind(Tokens.CREAKS, MAX_CREAKS);
            if (creaks == NONE) {
                return false;
            }
            plan.creaks[plan.rooms] = creaks;
            plan.rooms++;
            return true;
        }

        private boolean readDoor() {
            if (plan.doors >= MAX_DOORS) {
                return refuse(MISPLACED);
            }
            tokens.advance();
            int from = knownRoom();
            if (from == NONE) {
                return false;
            }
            tokens.advance();
            int to = knownRoom();
            if (to == NONE) {
                return false;
            }
            if (from == to || plan.hasDoorOf(from, to)) {
                return refuse(TOLD_ALREADY);
            }
            plan.doorFrom[plan.doors] = from;
            plan.doorTo[plan.doors] = to;
            plan.doors++;
            tokens.advance();
            return true;
        }

        private boolean readThing() {
            if (plan.things >= MAX_THINGS) {
                return refuse(MISPLACED);
            }
            tokens.advance();
            if (!tokens.isName()) {
                return refuse(MISPLACED);
            }
            if (plan.hasThingNamed(tokens.word)) {
                return refuse(TOLD_ALREADY);
            }
            plan.thingName[plan.things] = tokens.word;
            tokens.advance();
            if (!readPlaces(plan.things) || !readWorths(plan.things)) {
                return false;
            }
            plan.things++;
            return true;
        }

        private boolean readPlaces(int thing) {
            if (!tokens.isOwn(Tokens.IN)) {
                return refuse(MISPLACED);
            }
            tokens.advance();
            int in = knownRoom();
            if (in == NONE) {
                return false;
            }
            plan.in[thing] = in;
            plan.was[thing] = in;
            tokens.advance();
            if (tokens.isOwn(Tokens.WAS)) {
                tokens.advance();
                int was = knownRoom();
                if (was == NONE) {
                    return false;
                }
                plan.was[thing] = was;
                tokens.advance();
            }
            return true;
        }

        private boolean readWorths(int thing) {
            plan.ours[thing] = 0;
            if (tokens.isOwn(Tokens.OURS)) {
                plan.ours[thing] = 1;
                tokens.advance();
            }
            int us = readNumberBehind(Tokens.US, MOST_WORTH);
            if (us == NONE) {
                return false;
            }
            plan.us[thing] = us;
            int them = readNumberBehind(Tokens.THEM, MOST_WORTH);
            if (them == NONE) {
                return false;
            }
            plan.them[thing] = them;
            return true;
        }

        private boolean readSure() {
            if (plan.sure.told) {
                return refuse(MISPLACED);
            }
            plan.sure.told = true;
            tokens.advance();
            return readEither(0);
        }

        private boolean readDraw() {
            if (plan.drawTold) {
                return refuse(MISPLACED);
            }
            plan.drawTold = true;
            plan.draw = readNumberBehind(Tokens.DRAW, MOST_DRAW);
            return plan.draw != NONE;
        }

        /** An e; depth: the ( e ) and ones behind not that stand open around it. */
        private boolean readEither(int depth) {
            if (!readBoth(depth)) {
                return false;
            }
            for (int more = 0; more < MAX_TEXT && tokens.isOwn(Tokens.OR); more++) {
                tokens.advance();
                if (!readBoth(depth)) {
                    return false;
                }
                plan.sure.put(Formula.OR);
            }
            return true;
        }

        private boolean readBoth(int depth) {
            if (!readOne(depth)) {
                return false;
            }
            for (int more = 0; more < MAX_TEXT && tokens.isOwn(Tokens.AND); more++) {
                tokens.advance();
                if (!readOne(depth)) {
                    return false;
                }
                plan.sure.put(Formula.AND);
            }
            return true;
        }

        private boolean readOne(int depth) {
            if (!tokens.isOwn(Tokens.NOT)) {
                return readRelation(depth);
            }
            if (depth >= DEEPEST) {
                return refuse(MISPLACED);
            }
            tokens.advance();
            if (!readOne(depth + 1)) {
                return false;
            }
            plan.sure.put(Formula.NOT);
            return true;
        }

        private boolean readRelation(int depth) {
            if (!readSum(depth)) {
                return false;
            }
            int step = relation();
            if (step == 0) {
                return true;
            }
            tokens.advance();
            if (!readSum(depth)) {
                return false;
            }
            plan.sure.put(step);
            return true;
        }

        private boolean readSum(int depth) {
            if (!readTerm(depth)) {
                return false;
            }
            for (int more = 0; more < MAX_TEXT && (tokens.isSign('+') || tokens.isSign('-')); more++) {
                int step = tokens.value == '+' ? Formula.PLUS : Formula.MINUS;
                tokens.advance();
                if (!readTerm(depth)) {
                    return false;
                }
                plan.sure.put(step);
            }
            return true;
        }

        private boolean readTerm(int depth) {
            if (!readUnit(depth)) {
                return false;
            }
            for (int more = 0; more < MAX_TEXT; more++) {
                int step = product();
                if (step == 0) {
                    return true;
                }
                tokens.advance();
                if (!readUnit(depth)) {
                    return false;
                }
                plan.sure.put(step);
            }
            return true;
        }

        /** There is one sure at most, so its units are all units; 30 is the tighter of both bounds. */
        private boolean readUnit(int depth) {
            if (plan.sure.units >= Formula.MAX_UNITS_IN_ONE || plan.sure.units >= Formula.MAX_UNITS) {
                return refuse(MISPLACED);
            }
            if (tokens.isSign('(')) {
                return readInner(depth);
            }
            int step = tokens.kind == Tokens.NUMBER ? tokens.value : knownValue();
            if (step == NOT_A_STEP) {
                return refuse(MISPLACED);
            }
            plan.sure.units++;
            plan.sure.put(step);
            tokens.advance();
            return true;
        }

        private boolean readInner(int depth) {
            if (depth >= DEEPEST) {
                return refuse(MISPLACED);
            }
            plan.sure.units++;
            tokens.advance();
            return readEither(depth + 1) && readSign(')');
        }

        private int knownValue() {
            if (tokens.kind != Tokens.WORD) {
                return NOT_A_STEP;
            }
            switch (tokens.value) {
                case Tokens.US: return Formula.US;
                case Tokens.THEM: return Formula.THEM;
                case Tokens.FAR: return Formula.FAR;
                case Tokens.TOLD: return Formula.TOLD;
                case Tokens.DAY: return Formula.DAY;
                default: return NOT_A_STEP;
            }
        }

        private int relation() {
            if (tokens.kind != Tokens.SIGN) {
                return 0;
            }
            switch (tokens.value) {
                case '<': return Formula.LESS;
                case '>': return Formula.MORE;
                case '=': return Formula.EQUAL;
                default: return 0;
            }
        }

        private int product() {
            if (tokens.kind != Tokens.SIGN) {
                return 0;
            }
            switch (tokens.value) {
                case '*': return Formula.TIMES;
                case '/': return Formula.OVER;
                case '%': return Formula.REST;
                default: return 0;
            }
        }

        /** The number behind an own word; 0 if that word is not there. */
        private int readNumberBehind(int own, int most) {
            if (!tokens.isOwn(own)) {
                return 0;
            }
            tokens.advance();
            if (tokens.kind != Tokens.NUMBER) {
                refuse(MISPLACED);
                return NONE;
            }
            if (tokens.value > most) {
                refuse(BAD_NUMBER);
                return NONE;
            }
            int number = tokens.value;
            tokens.advance();
            return number;
        }

        private int knownRoom() {
            if (!tokens.isName()) {
                refuse(MISPLACED);
                return NONE;
            }
            int room = plan.roomNamed(tokens.word);
            if (room == NONE) {
                refuse(NO_ROOM);
            }
            return room;
        }

        private boolean readSign(char sign) {
            if (!tokens.isSign(sign)) {
                return refuse(MISPLACED);
            }
            tokens.advance();
            return true;
        }

        /** What is no TOKEN is the least FAULT at its place, whatever else was looked for there. */
        private boolean refuse(int what) {
            fault = tokens.kind == Tokens.NO_TOKEN ? BAD_TOKEN : what;
            faultPlace = tokens.place;
            return false;
        }
    }

    /** ROOMS and DOORS as masks and tables, made once for a HOUSE. */
    private static final class Floor {
        static final int MOST_BARS = 3;

        Plan plan;
        final int[] next = new int[MAX_ROOMS];
        final int[] far = new int[MAX_ROOMS * MAX_ROOMS];
        final int[] near = new int[MAX_DOORS];
        int parting;

        Floor(Plan empty) {
            plan = empty;
        }

        void build(Plan told) {
            plan = told;
            Arrays.fill(next, 0);
            for (int door = 0; door < plan.doors; door++) {
                next[plan.doorFrom[door]] |= 1 << plan.doorTo[door];
                next[plan.doorTo[door]] |= 1 << plan.doorFrom[door];
            }
            Arrays.fill(far, NONE);
            for (int room = 0; room < plan.rooms; room++) {
                measureFrom(room);
            }
            parting = 0;
            for (int door = 0; door < plan.doors; door++) {
                near[door] = nearSide(door);
                if ((near[door] >> plan.doorTo[door] & 1) == 0) {
                    parting |= 1 << door;
                }
            }
        }

        int allRooms() {
            return (1 << plan.rooms) - 1;
        }

        int farOf(int room, int other) {
            return far[room * MAX_ROOMS + other];
        }

        /** All ROOMS of some to which DOORS lead from one by these alone. */
        int reach(int room, int some) {
            int reached = 1 << room;
            for (int steps = 0; steps < MAX_ROOMS; steps++) {
                reached |= behindDoors(reached) & some;
            }
            return reached;
        }

        int countPieces() {
            int pieces = 0;
            int left = allRooms();
            for (int room = 0; room < plan.rooms; room++) {
                if ((left >> room & 1) == 1) {
                    pieces++;
                    left &= ~reach(room, allRooms());
                }
            }
            return pieces;
        }

        int minutesTo(int place, int room, int other) {
            return Math.max(farOf(room, place), farOf(other, place));
        }

        int meetingRoom(int room, int other) {
            if (farOf(room, other) == NONE) {
                return NONE;
            }
            int best = NONE;
            int least = MAX_ROOMS;
            for (int place = 0; place < plan.rooms; place++) {
                if (farOf(room, place) != NONE && minutesTo(place, room, other) < least) {
                    least = minutesTo(place, room, other);
                    best = place;
                }
            }
            return best;
        }

        /** Sets grow by number, so the first of its size is the least as bits. */
        int barringRooms(int room, int other) {
            int others = allRooms() & ~(1 << room | 1 << other);
            for (int size = 0; room != other && size <= MOST_BARS; size++) {
                for (int set = 0; set <= others; set++) {
                    boolean fits = (set & ~others) == 0 && Integer.bitCount(set) == size;
                    if (fits && (reach(room, ~set) >> other & 1) == 0) {
                        return set;
                    }
                }
            }
            return NONE;
        }

        int middleRoom() {
            int best = NONE;
            int least = MAX_ROOMS;
            for (int room = 0; room < plan.rooms; room++) {
                int farthest = farthestFrom(room);
                if (farthest < least) {
                    least = farthest;
                    best = room;
                }
            }
            return best;
        }

        int creakingRooms(int creaks) {
            int set = 0;
            for (int room = 0; room < plan.rooms; room++) {
                if (plan.creaks[room] >= creaks) {
                    set |= 1 << room;
                }
            }
            return set;
        }

        private int farthestFrom(int room) {
            int farthest = 0;
            for (int other = 0; other < plan.rooms; other++) {
                farthest = Math.max(farthest, farOf(room, other));
            }
            return farthest;
        }

        private int behindDoors(int set) {
            int behind = 0;
            for (int room = 0; room < plan.rooms; room++) {
                if ((set >> room & 1) == 1) {
                    behind |= next[room];
                }
            }
            return behind;
        }

        private void measureFrom(int room) {
            int reached = 0;
            int edge = 1 << room;
            for (int steps = 0; steps < plan.rooms; steps++) {
                for (int other = 0; other < plan.rooms; other++) {
                    if ((edge >> other & 1) == 1) {
                        far[room * MAX_ROOMS + other] = steps;
                    }
                }
                reached |= edge;
                edge = behindDoors(edge) & ~reached;
            }
        }

        /** Each two ROOMS have one DOOR at most, so to leave it out is to take it from both masks for a while. */
        private int nearSide(int door) {
            int from = plan.doorFrom[door];
            int to = plan.doorTo[door];
            next[from] ^= 1 << to;
            next[to] ^= 1 << from;
            int side = reach(from, allRooms());
            next[from] ^= 1 << to;
            next[to] ^= 1 << from;
            return side;
        }
    }

    /** Ways and tours, and the ROOMS of the latest of them that lie there. */
    private static final class Routes {
        /** Above the most DOORS of a way, so that creaks come first and DOORS second in one number. */
        static final int CREAK = 16;
        static final int FAR_ABOVE = 1 << 20;

        final Floor floor;
        final int[] lie = new int[MAX_ROOMS];
        int lying;
        final int[] cost = new int[MAX_ROOMS];
        final int[] rest = new int[MAX_ROOMS << MAX_ROOMS];

        Routes(Floor floor) {
            this.floor = floor;
        }

        int layWay(int room, int other) {
            int doors = floor.farOf(room, other);
            if (doors == NONE) {
                return NONE;
            }
            lay(room);
            int at = room;
            for (int left = doors - 1; left >= 0; left--) {
                at = nextOnWay(at, other, left);
                lay(at);
            }
            return doors;
        }

        int layQuiet(int room, int other) {
            if (floor.farOf(room, other) == NONE) {
                return NONE;
            }
            costTo(other);
            lay(room);
            int at = room;
            for (int steps = 0; steps < MAX_ROOMS && at != other; steps++) {
                at = nextOnQuiet(at);
                lay(at);
            }
            return cost[room] / CREAK;
        }

        int countWays(int room, int other) {
            if (floor.farOf(room, other) == NONE) {
                return NONE;
            }
            Arrays.fill(cost, 0);
            cost[room] = 1;
            for (int away = 1; away <= floor.farOf(room, other); away++) {
                for (int to = 0; to < floor.plan.rooms; to++) {
                    if (floor.farOf(room, to) == away) {
                        cost[to] = waysInto(room, to);
                    }
                }
            }
            return cost[other];
        }

        int layTour(int room, int set) {
            if ((set & ~floor.reach(room, floor.allRooms())) != 0) {
                return NONE;
            }
            for (int some = 0; some <= set; some++) {
                if ((some & ~set) == 0) {
                    measureTours(some, set | 1 << room);
                }
            }
            int at = room;
            int left = set;
            for (int steps = 0; steps < MAX_ROOMS && left != 0; steps++) {
                at = nextOnTour(at, left);
                left &= ~(1 << at);
                lay(at);
            }
            return rest[set * MAX_ROOMS + room];
        }

        private void lay(int room) {
            if (lying < MAX_ROOMS) {
                lie[lying] = room;
                lying++;
            }
        }

        private int nextOnWay(int at, int other, int left) {
            for (int to = 0; to < floor.plan.rooms; to++) {
                if ((floor.next[at] >> to & 1) == 1 && floor.farOf(to, other) == left) {
                    return to;
                }
            }
            return at;
        }

        /** What it costs to come from each ROOM to one: each DOOR lowers it, so no way goes round. */
        private void costTo(int other) {
            Arrays.fill(cost, FAR_ABOVE);
            cost[other] = 0;
            for (int steps = 0; steps < MAX_ROOMS; steps++) {
                for (int at = 0; at < floor.plan.rooms; at++) {
                    if (at != other) {
                        cost[at] = Math.min(cost[at], costBy(at, nextOnQuiet(at)));
                    }
                }
            }
        }

        private int nextOnQuiet(int at) {
            int best = at;
            int least = FAR_ABOVE;
            for (int to = 0; to < floor.plan.rooms; to++) {
                if ((floor.next[at] >> to & 1) == 1 && costBy(at, to) < least) {
                    least = costBy(at, to);
                    best = to;
                }
            }
            return best;
        }

        private int costBy(int at, int to) {
            return at == to ? FAR_ABOVE : cost[to] + floor.plan.creaks[to] * CREAK + 1;
        }

        private int waysInto(int room, int to) {
            int sum = 0;
            for (int at = 0; at < floor.plan.rooms; at++) {
                boolean nearer = floor.farOf(room, at) == floor.farOf(room, to) - 1;
                if (nearer && (floor.next[to] >> at & 1) == 1) {
                    sum += cost[at];
                }
            }
            return sum;
        }

        /** Fewest DOORS to come to some ROOMS from each of those in which a tour can stand. */
        private void measureTours(int some, int stands) {
            for (int at = 0; at < floor.plan.rooms; at++) {
                if ((stands >> at & 1) == 1) {
                    rest[some * MAX_ROOMS + at] = some == 0 ? 0 : tourBy(at, nextOnTour(at, some), some);
                }
            }
        }

        private int nextOnTour(int at, int some) {
            int best = at;
            int least = FAR_ABOVE;
            for (int to = 0; to < floor.plan.rooms; to++) {
                if ((some >> to & 1) == 1 && tourBy(at, to, some) < least) {
                    least = tourBy(at, to, some);
                    best = to;
                }
            }
            return best;
        }

        private int tourBy(int at, int to, int some) {
            return floor.farOf(at, to) + rest[(some & ~(1 << to)) * MAX_ROOMS + to];
        }
    }

    /** HUNTS: which DOORS to ask about. */
    private static final class Hunter {
        final Floor floor;
        /** For each set of ROOMS the fewest DOORS to ask about, or NONE. */
        final int[] asks = new int[1 << MAX_ROOMS];

        Hunter(Floor floor) {
            this.floor = floor;
        }

        int fewestAsks(int set) {
            for (int some = 1; some <= set; some++) {
                if ((some & ~set) == 0) {
                    int door = bestDoor(some);
                    int alone = Integer.bitCount(some) == 1 ? 0 : NONE;
                    asks[some] = door == NONE ? alone : asksBy(some, door);
                }
            }
            return asks[set];
        }

        int firstDoor(int set) {
            fewestAsks(set);
            return bestDoor(set);
        }

        private int bestDoor(int some) {
            int best = NONE;
            for (int door = 0; door < floor.plan.doors; door++) {
                int by = asksBy(some, door);
                if (by != NONE && (best == NONE || by < asksBy(some, best))) {
                    best = door;
                }
            }
            return best;
        }

        /** A DOOR with all of them on one side tells nothing, so it is left out. */
        private int asksBy(int some, int door) {
            int nearer = some & floor.near[door];
            int others = some & ~nearer;
            boolean parts = (floor.parting >> door & 1) == 1 && nearer != 0 && others != 0;
            if (!parts || asks[nearer] == NONE || asks[others] == NONE) {
                return NONE;
            }
            return 1 + Math.max(asks[nearer], asks[others]);
        }
    }

    /** What ACTS change, as rows of numbers: UNDO, REDO, BOXES and looking ahead are copies of a row. */
    private static final class Memory {
        static final int IN = 0;
        static final int THINK = IN + MAX_THINGS;
        static final int OURS = THINK + MAX_THINGS;
        static final int DEPTH = OURS + MAX_THINGS;
        static final int SPOKE = DEPTH + MAX_THINGS;
        static final int DAYS = SPOKE + MAX_THINGS;
        static final int SEED = DAYS + 1;
        static final int ROW = SEED + 1;

        static final int WE = 0;
        static final int THEY = 1;
        static final int MAX_ACTS = 40;
        static final int STATES = MAX_ACTS + 1;
        static final int BOXES = 3;

        final Floor floor;
        final int[] now = new int[ROW];
        final int[] ahead = new int[ROW];
        /** A ring: the state ahead of the oldest ACT kept, then one behind each ACT. */
        final int[][] kept = new int[STATES][ROW];
        int oldest;
        int done;
        int undone;
        final int[][] box = new int[BOXES][ROW];
        final boolean[] full = new boolean[BOXES];

        Memory(Floor floor) {
            this.floor = floor;
        }

        void begin() {
            Plan plan = floor.plan;
            for (int thing = 0; thing < plan.things; thing++) {
                now[IN + thing] = plan.in[thing];
                now[THINK + thing] = plan.was[thing];
                now[OURS + thing] = plan.ours[thing];
                now[DEPTH + thing] = 0;
                now[SPOKE + thing] = NONE;
            }
            now[DAYS] = 0;
            now[SEED] = plan.draw;
            for (int i = 0; i < BOXES; i++) {
                full[i] = false;
            }
            forgetActs();
        }

        int thingsWith(int column, int room) {
            int set = 0;
            for (int thing = 0; thing < floor.plan.things; thing++) {
                if (now[column + thing] == room) {
                    set |= 1 << thing;
                }
            }
            return set;
        }

        boolean isRight(int[] row, int thing) {
            return row[IN + thing] == row[THINK + thing];
        }

        int rightThings(int[] row) {
            int set = 0;
            for (int thing = 0; thing < floor.plan.things; thing++) {
                if (isRight(row, thing)) {
                    set |= 1 << thing;
                }
            }
            return set;
        }

        int farOff(int[] row, int thing) {
            int away = floor.farOf(row[IN + thing], row[THINK + thing]);
            return away == NONE ? NO_WAY : away;
        }

        int sureOf(int[] row, int thing, int day) {
            Formula sure = floor.plan.sure;
            if (!sure.told) {
                return MAX_SURE;
            }
            sure.know(floor.plan.us[thing], floor.plan.them[thing], farOff(row, thing), row[DEPTH + thing], day);
            return Math.max(0, Math.min(MAX_SURE, sure.work()));
        }

        void speak(int thing, int family) {
            if (now[SPOKE + thing] != family) {
                now[DEPTH + thing] = Math.min(MAX_DEPTH, now[DEPTH + thing] + 1);
                now[SPOKE + thing] = family;
            }
        }

        void bring(int thing, int room) {
            now[IN + thing] = room;
            now[DEPTH + thing] = 0;
            now[SPOKE + thing] = NONE;
        }

        /** A DAY on a row: THINGS whose memory slipped. */
        int passDay(int[] row) {
            int slipped = 0;
            int rooms = Math.max(1, floor.plan.rooms);
            for (int thing = 0; thing < floor.plan.things; thing++) {
                row[SEED] = (row[SEED] * 137 + 71) % 1000;
                if (row[SEED] % 100 >= sureOf(row, thing, row[DAYS])) {
                    row[THINK + thing] = (row[THINK + thing] + 1) % rooms;
                    slipped |= 1 << thing;
                }
            }
            row[DAYS]++;
            return slipped;
        }

        /** Nearest first: no other choice mends more by as many DOORS. */
        int mostMended(int doors) {
            int left = doors;
            int mended = 0;
            for (int away = 0; away < MAX_ROOMS; away++) {
                for (int thing = 0; thing < floor.plan.things; thing++) {
                    if (farOff(now, thing) == away && away <= left) {
                        left -= away;
                        mended++;
                    }
                }
            }
            return mended;
        }

        int oddsToStay(int thing, int days, int part) {
            int upper = 1;
            int lower = 1;
            for (int i = 0; i < days; i++) {
                upper *= sureOf(now, thing, now[DAYS] + i);
                lower *= MAX_SURE;
            }
            int common = Math.max(1, commonOf(upper, lower));
            return part == 0 ? upper / common : lower / common;
        }

        int thoughtBehind(int thing, int days) {
            System.arraycopy(now, 0, ahead, 0, ROW);
            for (int i = 0; i < days; i++) {
                passDay(ahead);
            }
            return ahead[THINK + thing];
        }

        int daysTillLost() {
            if (floor.plan.things == 0) {
                return NONE;
            }
            System.arraycopy(now, 0, ahead, 0, ROW);
            for (int days = 0; days <= MOST_AHEAD; days++) {
                if (rightThings(ahead) == 0) {
                    return days;
                }
                passDay(ahead);
            }
            return NONE;
        }

        void keepAct() {
            undone = 0;
            if (done < MAX_ACTS) {
                done++;
            } else {
                oldest = (oldest + 1) % STATES;
            }
            System.arraycopy(now, 0, kept[(oldest + done) % STATES], 0, ROW);
        }

        boolean stepBack() {
            if (done == 0) {
                return false;
            }
            done--;
            undone++;
            System.arraycopy(kept[(oldest + done) % STATES], 0, now, 0, ROW);
            return true;
        }

        boolean stepOn() {
            if (undone == 0) {
                return false;
            }
            done++;
            undone--;
            System.arraycopy(kept[(oldest + done) % STATES], 0, now, 0, ROW);
            return true;
        }

        int putInBox(int number) {
            if (number < 0 || number >= BOXES) {
                return NONE;
            }
            System.arraycopy(now, 0, box[number], 0, ROW);
            full[number] = true;
            return now[DAYS];
        }

        int takeFromBox(int number) {
            if (number < 0 || number >= BOXES || !full[number]) {
                return NONE;
            }
            System.arraycopy(box[number], 0, now, 0, ROW);
            forgetActs();
            return now[DAYS];
        }

        private void forgetActs() {
            oldest = 0;
            done = 0;
            undone = 0;
            System.arraycopy(now, 0, kept[0], 0, ROW);
        }

        /** Euclid's steps for numbers up to 100,000,000 are fewer than 64. */
        private static int commonOf(int a, int b) {
            int more = a;
            int less = b;
            for (int steps = 0; steps < 64 && less != 0; steps++) {
                int left = more % less;
                more = less;
                less = left;
            }
            return more;
        }
    }

    /** What THINGS are worth to either family. */
    private static final class Trader {
        final Memory memory;

        Trader(Memory memory) {
            this.memory = memory;
        }

        int betterElsewhere() {
            Plan plan = memory.floor.plan;
            int set = 0;
            for (int thing = 0; thing < plan.things; thing++) {
                int more = plan.them[thing] - plan.us[thing];
                if (isOurs(thing) ? more > 0 : more < 0) {
                    set |= 1 << thing;
                }
            }
            return set;
        }

        int worthOf(int ours, int[] worth) {
            int sum = 0;
            for (int thing = 0; thing < memory.floor.plan.things; thing++) {
                if (memory.now[Memory.OURS + thing] == ours) {
                    sum += worth[thing];
                }
            }
            return sum;
        }

        /** The best TRADE as one number: OURS times 6 and theirs; NONE if there is none. */
        int bestPair() {
            int best = NONE;
            int most = NONE;
            for (int pair = 0; pair < MAX_THINGS * MAX_THINGS; pair++) {
                int mine = pair / MAX_THINGS;
                int yours = pair % MAX_THINGS;
                if (isFair(mine, yours) && gainOf(mine, yours) > most) {
                    most = gainOf(mine, yours);
                    best = pair;
                }
            }
            return best;
        }

        int gainOf(int mine, int yours) {
            return ourGain(mine, yours) + theirGain(mine, yours);
        }

        int mostTrades() {
            return mostPairs(0, 0);
        }

        /** The most TRADES at once of OURS from one THING on, with theirs that are not used yet. */
        private int mostPairs(int mine, int used) {
            int things = memory.floor.plan.things;
            if (mine >= things) {
                return 0;
            }
            int most = mostPairs(mine + 1, used);
            for (int yours = 0; yours < things; yours++) {
                if ((used >> yours & 1) == 0 && isFair(mine, yours)) {
                    most = Math.max(most, 1 + mostPairs(mine + 1, used | 1 << yours));
                }
            }
            return most;
        }

        private boolean isOurs(int thing) {
            return memory.now[Memory.OURS + thing] == 1;
        }

        private boolean isFair(int mine, int yours) {
            int things = memory.floor.plan.things;
            if (mine >= things || yours >= things || !isOurs(mine) || isOurs(yours)) {
                return false;
            }
            return ourGain(mine, yours) >= 0 && theirGain(mine, yours) >= 0;
        }

        private int ourGain(int mine, int yours) {
            return memory.floor.plan.us[yours] - memory.floor.plan.us[mine];
        }

        private int theirGain(int mine, int yours) {
            return memory.floor.plan.them[mine] - memory.floor.plan.them[yours];
        }
    }

    /** HEARD, and the WALKS that it leaves. */
    private static final class Night {
        static final int MAX_HEARD = 30;
        static final int LONGEST_STEP = 1000;
        static final int LAST_TIME = 100000;

        final Floor floor;
        int count;
        int time;
        final int[] minute = new int[MAX_HEARD];
        /** Where he can have been at that minute by this alone: a HOUSE's creaks never change. */
        final int[] rooms = new int[MAX_HEARD];
        final int[] toldAt = new int[MAX_HEARD];
        final int[] untoldAt = new int[MAX_HEARD];

        final int[] open = new int[MINUTES];
        /** WALKS that come to a ROOM at a minute, and WALKS that go on from it. */
        final int[] into = new int[MINUTES * MAX_ROOMS];
        final int[] onward = new int[MINUTES * MAX_ROOMS];

        Night(Floor floor) {
            this.floor = floor;
        }

        int note(int at, int some, boolean is) {
            if (count >= MAX_HEARD) {
                return NONE;
            }
            minute[count] = at;
            rooms[count] = is ? some : ~some;
            toldAt[count] = time;
            untoldAt[count] = NONE;
            count++;
            return count - 1;
        }

        boolean takeBack(int number) {
            if (number < 0 || number >= count || untoldAt[number] != NONE) {
                return false;
            }
            untoldAt[number] = time;
            return true;
        }

        int moveOn(int by) {
            if (by < 0 || by > LONGEST_STEP || by > LAST_TIME - time) {
                return NONE;
            }
            time += by;
            return time;
        }

        /** Counts by what is known at k; what is asked of WALKS below is by the latest count. */
        int countWalks(int k) {
            openRooms(k);
            for (int at = 0; at < MINUTES; at++) {
                for (int room = 0; room < floor.plan.rooms; room++) {
                    into[at * MAX_ROOMS + room] = isOpen(at, room) ? comingTo(at, room) : 0;
                }
            }
            for (int at = MINUTES - 1; at >= 0; at--) {
                for (int room = 0; room < floor.plan.rooms; room++) {
                    onward[at * MAX_ROOMS + room] = isOpen(at, room) ? goingOn(at, room) : 0;
                }
            }
            int walks = 0;
            for (int room = 0; room < floor.plan.rooms; room++) {
                walks += onward[room];
            }
            return walks;
        }

        int onlyRoom(int at) {
            int only = NONE;
            for (int room = 0; room < floor.plan.rooms; room++) {
                if (through(at, room) > 0) {
                    if (only != NONE) {
                        return OTHER_NONE;
                    }
                    only = room;
                }
            }
            return only;
        }

        int bestMinute() {
            int best = 0;
            for (int at = 1; at < MINUTES; at++) {
                if (mostLeft(at) < mostLeft(best)) {
                    best = at;
                }
            }
            return best;
        }

        int mostLeft(int at) {
            int most = 0;
            for (int room = 0; room < floor.plan.rooms; room++) {
                most = Math.max(most, through(at, room));
            }
            return most;
        }

        private int through(int at, int room) {
            return into[at * MAX_ROOMS + room] * onward[at * MAX_ROOMS + room];
        }

        private void openRooms(int k) {
            Arrays.fill(open, ~0);
            for (int i = 0; i < count; i++) {
                boolean untold = untoldAt[i] != NONE && untoldAt[i] <= k;
                if (toldAt[i] <= k && !untold) {
                    open[minute[i]] &= rooms[i];
                }
            }
        }

        private boolean isOpen(int at, int room) {
            return (open[at] >> room & 1) == 1;
        }

        private int comingTo(int at, int room) {
            return at == 0 ? 1 : sumAround(into, at - 1, room);
        }

        private int goingOn(int at, int room) {
            return at == MINUTES - 1 ? 1 : sumAround(onward, at + 1, room);
        }

        /** He stayed, or went by a DOOR. */
        private int sumAround(int[] counts, int at, int room) {
            int around = floor.next[room] | 1 << room;
            int sum = 0;
            for (int other = 0; other < floor.plan.rooms; other++) {
                if ((around >> other & 1) == 1) {
                    sum += counts[at * MAX_ROOMS + other];
                }
            }
            return sum;
        }
    }
}
