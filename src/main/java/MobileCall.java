/** A mobile and its network, who pass rows of bytes; ../shared/DOC.md says what each call promises. */
public final class MobileCall {
    public static final int BAD = -1;
    public static final int NOT_SO = -2;
    public static final int NONE = -3;

    private static final int UP = 0;
    private static final int DOWN = 1;
    private static final int MOST_TICKS = 100;
    private static final int MOST_FORGED = 8;
    private static final int LEFT_MARK = 1000;

    private static final int MANAGING = 5;
    private static final int TYPE_UPDATE = 8;
    private static final int TYPE_ANSWER = 20;
    private static final int TYPE_SERVICE = 36;
    private static final int TYPE_DETACH = 1;
    private static final int TYPE_UPDATED = 2;
    private static final int TYPE_REFUSED = 4;
    private static final int TYPE_CHALLENGE = 18;
    private static final int TYPE_EXPELLED = 17;
    private static final int TYPE_SERVED = 33;
    private static final int TYPE_NOT_SERVED = 34;

    private static final int CALLING = 3;
    private static final int TYPE_SET_UP = 5;
    private static final int TYPE_ON_ITS_WAY = 2;
    private static final int TYPE_RINGS = 1;
    private static final int TYPE_CONNECT = 7;
    private static final int TYPE_CONNECTED = 15;
    private static final int TYPE_END = 37;
    private static final int TYPE_RELEASE = 45;
    private static final int TYPE_RELEASED = 42;

    private static final int TAG_CAUSE = 8;
    private static final int TAG_AREA = 19;
    private static final int TAG_CHALLENGE = 33;
    private static final int TAG_ANSWER = 34;
    private static final int TAG_NUMBER = 94;

    private static final int CAUSE_BYTES = 1;
    private static final int AREA_BYTES = 2;
    private static final int CHALLENGE_BYTES = 4;
    private static final int MOST_DIGITS = 8;
    private static final int HIGHEST_AREA = 65535;

    private final Row up;
    private final Row down;
    private final Mobile mobile;
    private final Network network;
    private int left;

    public MobileCall(int key, int networkKey, int seed) {
        mobile = new Mobile(key);
        network = new Network(networkKey, seed);
        up = mobile.out;
        down = network.out;
        left = 0;
    }

    public int power(boolean on) {
        if (on == mobile.isOn()) {
            return NOT_SO;
        }
        if (on) {
            mobile.switchOn();
        } else {
            mobile.switchOff();
        }
        return 1;
    }

    public int update(int area) {
        if (area < 0 || area > HIGHEST_AREA) {
            return BAD;
        }
        return done(mobile.startUpdating(area));
    }

    public int dial(int number, int digits) {
        if (digits < 1 || digits > MOST_DIGITS || number < 0) {
            return BAD;
        }
        return done(mobile.startAsking(number, digits));
    }

    public int hang() {
        return done(mobile.startEnding(Mobile.CAUSE_HUNG_UP));
    }

    public int alert() {
        return done(network.startRinging());
    }

    public int answer() {
        return done(network.startAnswered());
    }

    public int clear(int cause) {
        if (!isByte(cause)) {
            return BAD;
        }
        return done(network.startEnding(cause));
    }

    public int accept(int bits) {
        network.setAccepted((bits & 1) != 0, (bits & 2) != 0);
        return 1;
    }

    public int radio(boolean on) {
        if (on == up.isOpen()) {
            return NOT_SO;
        }
        if (on) {
            up.open();
            down.open();
        } else {
            up.close();
            down.close();
            mobile.dropRadio();
            network.rest();
        }
        return 1;
    }

    public int carry(int way) {
        if (!isWay(way)) {
            return BAD;
        }
        Message message = row(way).at(0);
        if (message == null) {
            return NONE;
        }
        int type = message.type();
        // What arrives is answered into the other row, so its own slot stays untouched until it is dropped.
        boolean taken = way == UP ? network.takes(message) : mobile.takes(message);
        row(way).dropFirst();
        if (taken) {
            return type;
        }
        left++;
        return type + LEFT_MARK;
    }

    public int lose(int way) {
        if (!isWay(way)) {
            return BAD;
        }
        Message message = row(way).at(0);
        if (message == null) {
            return NONE;
        }
        row(way).dropFirst();
        return message.type();
    }

    public int spoil(int way, int i, int mask) {
        if (!isWay(way) || !isByte(mask)) {
            return BAD;
        }
        Message message = row(way).at(0);
        if (message == null) {
            return NONE;
        }
        message.change(i, mask);
        return message.byteAt(i);
    }

    public int forge(int way, long v, int n) {
        if (!isWay(way) || n < Message.HEAD || n > MOST_FORGED) {
            return BAD;
        }
        Row row = row(way);
        if (!row.hasRoom()) {
            return NOT_SO;
        }
        Message message = row.send(byteOfLong(v, n - 1), byteOfLong(v, n - 2));
        for (int k = n - 3; k >= 0; k--) {
            message.add(byteOfLong(v, k));
        }
        return row.size();
    }

    public int tick(int many) {
        if (many < 1 || many > MOST_TICKS) {
            return BAD;
        }
        int ended = 0;
        for (int k = 0; k < many; k++) {
            if (mobile.endsTimer()) {
                ended++;
            }
            if (network.endsTimer()) {
                ended++;
            }
        }
        return ended;
    }

    public int told(int what) {
        switch (what) {
            case 0: return mobile.state;
            case 1: return mobile.call;
            case 2: return mobile.timer;
            case 3: return mobile.area;
            case 4: return network.state;
            case 5: return network.call;
            case 6: return network.timer;
            case 7: return network.area;
            case 8: return up.size();
            case 9: return down.size();
            case 10: return left;
            case 11: return up.isOpen() ? 1 : 0;
            case 12: return mobile.lastCause;
            case 13: return network.lastCause;
            default: return BAD;
        }
    }

    public int byteOf(int way, int k, int i) {
        if (!isWay(way)) {
            return NONE;
        }
        Message message = row(way).at(k);
        return message == null ? NONE : message.byteAt(i);
    }

    public int digit(int i) {
        return network.numberByte(i);
    }

    private Row row(int way) {
        return way == UP ? up : down;
    }

    private static boolean isWay(int way) {
        return way == UP || way == DOWN;
    }

    private static boolean isByte(int value) {
        return value >= 0 && value <= 255;
    }

    private static int byteOfLong(long v, int k) {
        return (int) (v >>> (8 * k)) & 255;
    }

    private static int done(boolean so) {
        return so ? 1 : NOT_SO;
    }

    /** The bytes of one message: protocol, type, and elements of a tag, a length and so many bytes. */
    private static final class Message {
        static final int HEAD = 2;
        static final int MOST = 24;

        private final int[] bytes;
        private int length;

        Message() {
            bytes = new int[MOST];
            length = 0;
        }

        void begin(int protocol, int type) {
            bytes[0] = protocol;
            bytes[1] = type;
            length = HEAD;
        }

        void add(int value) {
            if (length < MOST) {
                bytes[length] = value & 255;
                length++;
            }
        }

        void addNumber(int tag, int size, int value) {
            add(tag);
            add(size);
            for (int k = size - 1; k >= 0; k--) {
                add(value >>> (8 * k));
            }
        }

        void change(int i, int mask) {
            if (hasByte(i)) {
                bytes[i] ^= mask;
            }
        }

        int byteAt(int i) {
            return hasByte(i) ? bytes[i] : NONE;
        }

        int protocol() {
            return bytes[0];
        }

        int type() {
            return bytes[1];
        }

        boolean isGood() {
            int at = HEAD;
            for (int n = 0; n < MOST && at + 1 < length; n++) {
                at += 2 + bytes[at + 1];
            }
            return at == length;
        }

        boolean has(int tag, int size) {
            return sizeOf(tag) == size;
        }

        /** The length of the first element with a tag, or NONE. */
        int sizeOf(int tag) {
            int at = find(tag);
            return at == NONE ? NONE : bytes[at + 1];
        }

        /** Byte k of the first element with a tag, or NONE. */
        int elementByte(int tag, int k) {
            int at = find(tag);
            return at == NONE ? NONE : byteAt(at + 2 + k);
        }

        /** The number in the first element with a tag; 0 for what has() does not tell of. */
        int number(int tag, int size) {
            int at = find(tag);
            if (at == NONE || at + 2 + size > length) {
                return 0;
            }
            int value = 0;
            for (int k = 0; k < size; k++) {
                value = value << 8 | bytes[at + 2 + k];
            }
            return value;
        }

        /** Where the first element with a tag begins: no later one stands in for it when its length is wrong. */
        private int find(int tag) {
            int at = HEAD;
            for (int n = 0; n < MOST && at + 1 < length; n++) {
                if (bytes[at] == tag) {
                    return at;
                }
                at += 2 + bytes[at + 1];
            }
            return NONE;
        }

        private boolean hasByte(int i) {
            return i >= 0 && i < length;
        }
    }

    /** The messages on their way to one side; its slots are made once and used in turn. */
    private static final class Row {
        static final int MOST = 8;

        private final Message[] slots;
        // What is sent when there is no room is written here, and so is gone.
        private final Message spare;
        private int first;
        private int count;
        private boolean open;

        Row() {
            slots = new Message[MOST];
            for (int k = 0; k < MOST; k++) {
                slots[k] = new Message();
            }
            spare = new Message();
            first = 0;
            count = 0;
            open = true;
        }

        int size() {
            return count;
        }

        boolean isOpen() {
            return open;
        }

        void open() {
            open = true;
        }

        void close() {
            open = false;
            count = 0;
        }

        boolean hasRoom() {
            return open && count < MOST;
        }

        Message at(int k) {
            return k >= 0 && k < count ? slots[(first + k) % MOST] : null;
        }

        /** A message without elements yet, last in the row if there is room for it. */
        Message send(int protocol, int type) {
            Message message = spare;
            if (hasRoom()) {
                message = slots[(first + count) % MOST];
                count++;
            }
            message.begin(protocol, type);
            return message;
        }

        void dropFirst() {
            if (count > 0) {
                first = (first + 1) % MOST;
                count--;
            }
        }
    }

    /** What the mobile and the network have in common: a state, a call, a timer, and how a call ends. */
    private abstract static class Party {
        static final int NO_TIMER = 0;
        static final int NO_CALL = 0;
        static final int CALL_ENDING = 5;
        static final int CALL_RELEASING = 6;
        static final int ENDING_TIME = 30;
        static final int NO_CAUSE = -1;

        final Row out;
        final int restState;
        int state;
        int call;
        int timer;
        int lastCause;
        private boolean releasedTwice;

        Party(int firstState, int restState) {
            out = new Row();
            this.restState = restState;
            state = firstState;
            call = NO_CALL;
            timer = NO_TIMER;
            lastCause = NO_CAUSE;
            releasedTwice = false;
        }

        abstract boolean takesManaging(Message message);

        abstract boolean takesCalling(Message message);

        abstract void timeOut();

        /** Whether a message that comes is told for this state; if not it is LEFT. */
        final boolean takes(Message message) {
            if (!message.isGood()) {
                return false;
            }
            switch (message.protocol()) {
                case MANAGING: return takesManaging(message);
                case CALLING: return takesCalling(message);
                default: return false;
            }
        }

        final boolean endsTimer() {
            if (timer == NO_TIMER) {
                return false;
            }
            timer--;
            if (timer > 0) {
                return false;
            }
            timeOut();
            return true;
        }

        final boolean startEnding(int cause) {
            if (!hasCall(1, CALL_ENDING - 1)) {
                return false;
            }
            out.send(CALLING, TYPE_END).addNumber(TAG_CAUSE, CAUSE_BYTES, cause);
            setCall(CALL_ENDING, ENDING_TIME);
            return true;
        }

        final void rest() {
            setState(restState, NO_TIMER);
        }

        /** A state without a call. */
        final void setState(int newState, int newTimer) {
            state = newState;
            call = NO_CALL;
            timer = newTimer;
        }

        final void setCall(int newCall, int newTimer) {
            call = newCall;
            timer = newTimer;
            releasedTwice = false;
        }

        final boolean hasCall(int from, int to) {
            return call >= from && call <= to;
        }

        final boolean takesEnd(Message message) {
            if (!hasCall(1, CALL_ENDING) || !message.has(TAG_CAUSE, CAUSE_BYTES)) {
                return false;
            }
            lastCause = message.number(TAG_CAUSE, CAUSE_BYTES);
            startReleasing();
            return true;
        }

        final boolean takesRelease() {
            out.send(CALLING, TYPE_RELEASED);
            rest();
            return true;
        }

        final boolean takesReleased() {
            rest();
            return true;
        }

        final void timeOutClearing() {
            if (call == CALL_ENDING) {
                startReleasing();
            } else if (call == CALL_RELEASING && !releasedTwice) {
                startReleasing();
                releasedTwice = true;
            } else {
                rest();
            }
        }

        static int answerTo(int challenge, int key) {
            int product = (challenge ^ key) * 16777619;
            return product << 5 | product >>> 27;
        }

        private void startReleasing() {
            out.send(CALLING, TYPE_RELEASE);
            setCall(CALL_RELEASING, ENDING_TIME);
        }
    }

    private static final class Mobile extends Party {
        static final int OFF = 0;
        static final int LOST = 1;
        static final int UPDATING = 2;
        static final int REGISTERED = 3;
        static final int ASKING = 4;
        static final int CONNECTED = 5;

        static final int CALL_SET_UP = 1;
        static final int CALL_ON_ITS_WAY = 2;
        static final int CALL_RINGING = 3;
        static final int CALL_ACTIVE = 4;

        static final int CAUSE_HUNG_UP = 16;
        static final int UPDATING_TIME = 20;
        static final int ASKING_TIME = 15;
        static final int SET_UP_TIME = 30;

        final int key;
        int area;
        private final int[] digits;
        private int digitCount;

        Mobile(int key) {
            super(OFF, REGISTERED);
            this.key = key;
            area = 0;
            digits = new int[MOST_DIGITS];
            digitCount = 0;
        }

        boolean isOn() {
            return state != OFF;
        }

        void switchOn() {
            area = 0;
            setState(LOST, NO_TIMER);
        }

        void switchOff() {
            out.send(MANAGING, TYPE_DETACH);
            setState(OFF, NO_TIMER);
        }

        boolean startUpdating(int newArea) {
            if (state != LOST && state != REGISTERED) {
                return false;
            }
            out.send(MANAGING, TYPE_UPDATE).addNumber(TAG_AREA, AREA_BYTES, newArea);
            setState(UPDATING, UPDATING_TIME);
            return true;
        }

        boolean startAsking(int number, int many) {
            if (state != REGISTERED) {
                return false;
            }
            keepDigits(number, many);
            out.send(MANAGING, TYPE_SERVICE);
            setState(ASKING, ASKING_TIME);
            return true;
        }

        void dropRadio() {
            if (state == UPDATING) {
                setState(LOST, NO_TIMER);
            } else if (state == ASKING || state == CONNECTED) {
                rest();
            }
        }

        boolean takesManaging(Message message) {
            switch (message.type()) {
                case TYPE_UPDATED: return takesUpdated(message);
                case TYPE_REFUSED: return takesRefusal(message, UPDATING, LOST);
                case TYPE_CHALLENGE: return takesChallenge(message);
                case TYPE_EXPELLED: return takesExpelled();
                case TYPE_SERVED: return takesServed();
                case TYPE_NOT_SERVED: return takesRefusal(message, ASKING, REGISTERED);
                default: return false;
            }
        }

        boolean takesCalling(Message message) {
            // When CONNECTED there is always a call, so that RELEASE and RELEASED need not look for one.
            if (state != CONNECTED) {
                return false;
            }
            switch (message.type()) {
                case TYPE_ON_ITS_WAY: return takesProgress(CALL_SET_UP, CALL_ON_ITS_WAY);
                case TYPE_RINGS: return takesProgress(CALL_ON_ITS_WAY, CALL_RINGING);
                case TYPE_CONNECT: return takesConnect();
                case TYPE_END: return takesEnd(message);
                case TYPE_RELEASE: return takesRelease();
                case TYPE_RELEASED: return takesReleased();
                default: return false;
            }
        }

        void timeOut() {
            if (state == UPDATING) {
                setState(LOST, NO_TIMER);
            } else if (state == ASKING) {
                rest();
            } else if (call == CALL_SET_UP) {
                out.send(CALLING, TYPE_RELEASED);
                rest();
            } else {
                timeOutClearing();
            }
        }

        private boolean takesUpdated(Message message) {
            if (state != UPDATING || !message.has(TAG_AREA, AREA_BYTES)) {
                return false;
            }
            area = message.number(TAG_AREA, AREA_BYTES);
            rest();
            return true;
        }

        private boolean takesRefusal(Message message, int from, int to) {
            if (state != from || !message.has(TAG_CAUSE, CAUSE_BYTES)) {
                return false;
            }
            lastCause = message.number(TAG_CAUSE, CAUSE_BYTES);
            setState(to, NO_TIMER);
            return true;
        }

        private boolean takesChallenge(Message message) {
            if (state != UPDATING && state != ASKING || !message.has(TAG_CHALLENGE, CHALLENGE_BYTES)) {
                return false;
            }
            int challenge = message.number(TAG_CHALLENGE, CHALLENGE_BYTES);
            out.send(MANAGING, TYPE_ANSWER).addNumber(TAG_ANSWER, CHALLENGE_BYTES, answerTo(challenge, key));
            return true;
        }

        private boolean takesExpelled() {
            if (state == OFF) {
                return false;
            }
            setState(LOST, NO_TIMER);
            return true;
        }

        private boolean takesServed() {
            if (state != ASKING) {
                return false;
            }
            state = CONNECTED;
            sendSetUp();
            setCall(CALL_SET_UP, SET_UP_TIME);
            return true;
        }

        private boolean takesProgress(int latest, int next) {
            if (!hasCall(CALL_SET_UP, latest)) {
                return false;
            }
            setCall(next, NO_TIMER);
            return true;
        }

        private boolean takesConnect() {
            if (!takesProgress(CALL_RINGING, CALL_ACTIVE)) {
                return false;
            }
            out.send(CALLING, TYPE_CONNECTED);
            return true;
        }

        private void keepDigits(int number, int many) {
            int remaining = number;
            digitCount = many;
            for (int k = many - 1; k >= 0; k--) {
                digits[k] = remaining % 10;
                remaining /= 10;
            }
        }

        private void sendSetUp() {
            Message message = out.send(CALLING, TYPE_SET_UP);
            message.add(TAG_NUMBER);
            message.add(digitCount);
            for (int k = 0; k < digitCount; k++) {
                message.add(digits[k]);
            }
        }
    }

    private static final class Network extends Party {
        static final int IDLE = 0;
        static final int ASKED_UPDATE = 1;
        static final int ASKED_SERVICE = 2;
        static final int CONNECTED = 3;

        static final int CALL_ON_ITS_WAY = 1;
        static final int CALL_RINGING = 2;
        static final int CALL_ANSWERED = 3;
        static final int CALL_ACTIVE = 4;

        static final int NO_AREA = -1;
        static final int CAUSE_UNKNOWN = 4;
        static final int CAUSE_UPDATES_REFUSED = 11;
        static final int CAUSE_SERVICES_REFUSED = 32;
        static final int CAUSE_NOT_CONNECTED = 102;
        static final int ASKED_TIME = 12;
        static final int ANSWERED_TIME = 10;

        final int key;
        int area;
        private int challenge;
        private int askedArea;
        private boolean acceptsUpdates;
        private boolean acceptsServices;
        private final int[] number;
        private int numberLength;

        Network(int key, int seed) {
            super(IDLE, IDLE);
            this.key = key;
            area = NO_AREA;
            challenge = seed;
            askedArea = 0;
            acceptsUpdates = true;
            acceptsServices = true;
            number = new int[MOST_DIGITS];
            numberLength = 0;
        }

        void setAccepted(boolean updates, boolean services) {
            acceptsUpdates = updates;
            acceptsServices = services;
        }

        boolean startRinging() {
            if (call != CALL_ON_ITS_WAY) {
                return false;
            }
            out.send(CALLING, TYPE_RINGS);
            setCall(CALL_RINGING, NO_TIMER);
            return true;
        }

        boolean startAnswered() {
            if (!hasCall(CALL_ON_ITS_WAY, CALL_RINGING)) {
                return false;
            }
            out.send(CALLING, TYPE_CONNECT);
            setCall(CALL_ANSWERED, ANSWERED_TIME);
            return true;
        }

        int numberByte(int i) {
            return call != NO_CALL && i >= 0 && i < numberLength ? number[i] : NONE;
        }

        boolean takesManaging(Message message) {
            switch (message.type()) {
                case TYPE_UPDATE: return takesUpdate(message);
                case TYPE_SERVICE: return takesService();
                case TYPE_ANSWER: return takesAnswer(message);
                case TYPE_DETACH: return takesDetach();
                default: return false;
            }
        }

        boolean takesCalling(Message message) {
            if (state != CONNECTED) {
                return false;
            }
            switch (message.type()) {
                case TYPE_SET_UP: return takesSetUp(message);
                case TYPE_CONNECTED: return takesConnected();
                case TYPE_END: return takesEnd(message);
                case TYPE_RELEASE: return takesRelease();
                case TYPE_RELEASED: return takesReleased();
                default: return false;
            }
        }

        void timeOut() {
            if (call == CALL_ANSWERED) {
                startEnding(CAUSE_NOT_CONNECTED);
            } else {
                // Without a call it was ASKED, and rests as after a release.
                timeOutClearing();
            }
        }

        private boolean takesDetach() {
            forgetMobile();
            return true;
        }

        private void forgetMobile() {
            area = NO_AREA;
            rest();
        }

        private boolean takesUpdate(Message message) {
            if (state != IDLE || !message.has(TAG_AREA, AREA_BYTES)) {
                return false;
            }
            askedArea = message.number(TAG_AREA, AREA_BYTES);
            sendChallenge(ASKED_UPDATE);
            return true;
        }

        private boolean takesService() {
            if (state != IDLE) {
                return false;
            }
            if (area == NO_AREA) {
                out.send(MANAGING, TYPE_NOT_SERVED).addNumber(TAG_CAUSE, CAUSE_BYTES, CAUSE_UNKNOWN);
            } else {
                sendChallenge(ASKED_SERVICE);
            }
            return true;
        }

        private void sendChallenge(int askedState) {
            challenge = challenge * 1103515245 + 12345;
            out.send(MANAGING, TYPE_CHALLENGE).addNumber(TAG_CHALLENGE, CHALLENGE_BYTES, challenge);
            setState(askedState, ASKED_TIME);
        }

        private boolean takesAnswer(Message message) {
            boolean asked = state == ASKED_UPDATE || state == ASKED_SERVICE;
            if (!asked || !message.has(TAG_ANSWER, CHALLENGE_BYTES)) {
                return false;
            }
            if (message.number(TAG_ANSWER, CHALLENGE_BYTES) != answerTo(challenge, key)) {
                out.send(MANAGING, TYPE_EXPELLED);
                forgetMobile();
            } else if (state == ASKED_UPDATE) {
                decideUpdate();
            } else {
                decideService();
            }
            return true;
        }

        private void decideUpdate() {
            if (acceptsUpdates) {
                area = askedArea;
                out.send(MANAGING, TYPE_UPDATED).addNumber(TAG_AREA, AREA_BYTES, area);
            } else {
                out.send(MANAGING, TYPE_REFUSED).addNumber(TAG_CAUSE, CAUSE_BYTES, CAUSE_UPDATES_REFUSED);
            }
            rest();
        }

        private void decideService() {
            if (acceptsServices) {
                out.send(MANAGING, TYPE_SERVED);
                setState(CONNECTED, NO_TIMER);
            } else {
                out.send(MANAGING, TYPE_NOT_SERVED).addNumber(TAG_CAUSE, CAUSE_BYTES, CAUSE_SERVICES_REFUSED);
                rest();
            }
        }

        private boolean takesSetUp(Message message) {
            int size = message.sizeOf(TAG_NUMBER);
            if (call != NO_CALL || size < 1 || size > MOST_DIGITS) {
                return false;
            }
            numberLength = size;
            for (int k = 0; k < size; k++) {
                number[k] = message.elementByte(TAG_NUMBER, k);
            }
            out.send(CALLING, TYPE_ON_ITS_WAY);
            setCall(CALL_ON_ITS_WAY, NO_TIMER);
            return true;
        }

        private boolean takesConnected() {
            if (call != CALL_ANSWERED) {
                return false;
            }
            setCall(CALL_ACTIVE, NO_TIMER);
            return true;
        }
    }
}
