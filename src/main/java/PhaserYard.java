import java.util.Arrays;

/** Tasks in scopes, with futures and phasers, on workers who steal from each other, tick by tick. */
public final class PhaserYard {
    private static final int BODIES = 8;
    private static final int MOST_INSTRUCTIONS = 16;
    private static final int MOST_TASKS = 48;
    private static final int MOST_OWN_SCOPES = 3;
    private static final int FUTURES = 4;
    private static final int PHASERS = 2;
    private static final int MOST_WORKERS = 3;
    private static final int KEPT_NUMBERS = 40;
    private static final int MOST_TICKS = 200;

    private static final int ADD = 0;
    private static final int TIMES = 1;
    private static final int ASYNC = 2;
    private static final int HANDS = 3;
    private static final int OPEN = 4;
    private static final int CLOSE = 5;
    private static final int GIVE = 6;
    private static final int PUT = 7;
    private static final int GET = 8;
    private static final int WHEN = 9;
    private static final int JOIN = 10;
    private static final int LEAVE = 11;
    private static final int NEXT = 12;
    private static final int THROW = 13;
    private static final int SAY = 14;
    private static final int IF = 15;
    private static final int GOTO = 16;

    private static final int LOWEST = -2147483648;
    private static final int HIGHEST = 2147483647;

    /** The bounds of a, by op. */
    private static final int[] LEAST_A = {
        LOWEST, LOWEST, 0, 0, 0, LOWEST, LOWEST, 0, 0, 0, 0, 0, LOWEST, 10, LOWEST, 0, 0};
    private static final int[] GREATEST_A = {
        HIGHEST, HIGHEST, 7, 7, 63, HIGHEST, HIGHEST, 3, 3, 31, 7, 1, HIGHEST, 99, HIGHEST, 15, 15};

    /** KINDS and MODES are the last digits, to these bases, of the a of OPEN and JOIN. */
    private static final int KINDS = 4;
    private static final int MODES = 4;

    private static final int KIND_SUM = 0;
    private static final int KIND_LEAST = 1;
    private static final int KIND_GREATEST = 2;

    /** The TOTAL of nothing, by KIND. */
    private static final int[] TOTAL_OF_NOTHING = {0, HIGHEST, LOWEST, 1};

    private static final int MODE_SIGNAL = 1;
    private static final int MODE_WAIT = 2;

    private static final int NO_CODE = 0;
    private static final int CODE_TOO_MANY = 1;
    private static final int CODE_PUT_TWICE = 2;
    private static final int CODE_REGISTRATION = 3;
    private static final int CODE_NO_SCOPE = 4;

    private static final int NO_TASK = -1;

    /** Where a TASK is, in the numbers of promise 8. */
    private static final int IN_DEQUE = 0;
    private static final int AT_HAND = 1;
    private static final int WAITS = 2;
    private static final int DONE = 3;

    /**
     * What the next STEP of a TASK does. What was begun is kept with the TASK and not read from the
     * BODY again, since the BODY may have been changed while the TASK waited.
     */
    private static final int DUE_PLACE = 0;
    private static final int DUE_GET = 1;
    private static final int DUE_NEXT = 2;
    private static final int DUE_END_BY_CLOSE = 3;
    private static final int DUE_END = 4;

    private final Body[] bodies;
    private final Run current;

    public PhaserYard() {
        bodies = new Body[BODIES];
        for (int b = 0; b < BODIES; b++) {
            bodies[b] = new Body();
        }
        current = new Run(bodies);
    }

    public int body(int b) throws IllegalArgumentException {
        if (!isWithin(b, 0, BODIES - 1)) {
            throw new IllegalArgumentException("no such body");
        }
        int had = bodies[b].size;
        bodies[b].size = 0;
        return had;
    }

    public int add(int b, int op, int a) throws IllegalArgumentException, IllegalStateException {
        if (!isWithin(b, 0, BODIES - 1) || !isInstruction(op, a)) {
            throw new IllegalArgumentException("no such body or instruction");
        }
        if (bodies[b].size >= MOST_INSTRUCTIONS) {
            throw new IllegalStateException("the body is full");
        }
        bodies[b].append(op, a);
        return bodies[b].size;
    }

    public void begin(int b, int sum, int workers, int policy) throws IllegalArgumentException {
        if (!isWithin(b, 0, BODIES - 1) || !isWithin(workers, 1, MOST_WORKERS) || !isWithin(policy, 0, 1)) {
            throw new IllegalArgumentException("no such body, number of workers or policy");
        }
        current.reset(workers, policy == 1);
        current.beginFirst(b, sum);
    }

    public int run(int n) throws IllegalArgumentException, IllegalStateException, UnsupportedOperationException {
        if (!isWithin(n, 0, MOST_TICKS)) {
            throw new IllegalArgumentException("too few or too many ticks");
        }
        if (!current.isBegun()) {
            throw new IllegalStateException("nothing was begun");
        }
        for (int i = 0; i < n && !current.isOver() && !current.isStuck(); i++) {
            current.tick();
        }
        if (current.isStuck()) {
            throw new UnsupportedOperationException("the run is stuck");
        }
        return current.isOver() ? 1 : 0;
    }

    public int result() throws IllegalStateException, ArithmeticException {
        if (!current.isOver()) {
            throw new IllegalStateException("the run is not over");
        }
        if (current.root.noted > 0) {
            throw new ArithmeticException("a code came to the root scope");
        }
        return current.tasks[0].sum + current.root.total;
    }

    public int said(int k) throws IndexOutOfBoundsException {
        if (!isWithin(k, 0, Math.min(current.spokenCount, KEPT_NUMBERS) - 1)) {
            throw new IndexOutOfBoundsException("no such number is kept");
        }
        return current.spoken[k];
    }

    public int task(int t, int what) throws IllegalArgumentException, IndexOutOfBoundsException {
        if (!isWithin(what, 0, 6)) {
            throw new IllegalArgumentException("no such question of a task");
        }
        if (!isWithin(t, 0, current.taskCount - 1)) {
            throw new IndexOutOfBoundsException("no such task");
        }
        return current.answerOf(current.tasks[t], what);
    }

    public int future(int f) throws IllegalArgumentException, IllegalStateException {
        if (!isWithin(f, 0, FUTURES - 1)) {
            throw new IllegalArgumentException("no such future");
        }
        if (!current.isPut[f]) {
            throw new IllegalStateException("the future was not put");
        }
        return current.values[f];
    }

    public int count(int what) throws IllegalArgumentException {
        if (isWithin(what, 0, 10)) {
            return current.figure(what);
        }
        if (isWithin(what, 20, 22)) {
            return current.workers[what - 20].hand;
        }
        if (isWithin(what, 30, 32)) {
            return current.workers[what - 30].size;
        }
        if (isWithin(what, 40, 87)) {
            return current.workers[0].taskAt(what - 40);
        }
        if (isWithin(what, 100, 147)) {
            return current.workers[1].taskAt(what - 100);
        }
        throw new IllegalArgumentException("no such count");
    }

    private static boolean isWithin(int number, int least, int greatest) {
        return number >= least && number <= greatest;
    }

    private static boolean isInstruction(int op, int a) {
        return isWithin(op, ADD, GOTO) && isWithin(a, LEAST_A[op], GREATEST_A[op]);
    }

    private static final class Body {
        final int[] ops;
        final int[] operands;
        int size;

        Body() {
            ops = new int[MOST_INSTRUCTIONS];
            operands = new int[MOST_INSTRUCTIONS];
        }

        void append(int op, int a) {
            if (size < MOST_INSTRUCTIONS) {
                ops[size] = op;
                operands[size] = a;
                size++;
            }
        }
    }

    private static final class Scope {
        int kind;
        int handler;
        /** The COUNT: TASKS begun in it that are not DONE. */
        int unfinished;
        int total;
        int noted;
        int leastNoted;

        void open(int newKind, int newHandler) {
            kind = newKind;
            handler = newHandler;
            unfinished = 0;
            total = TOTAL_OF_NOTHING[newKind];
            noted = 0;
            leastNoted = NO_CODE;
        }

        void give(int value) {
            switch (kind) {
                case KIND_SUM:
                    total += value;
                    break;
                case KIND_LEAST:
                    total = Math.min(total, value);
                    break;
                case KIND_GREATEST:
                    total = Math.max(total, value);
                    break;
                default:
                    total *= value;
                    break;
            }
        }

        void note(int code) {
            leastNoted = noted == 0 ? code : Math.min(leastNoted, code);
            noted++;
        }

        int sumAfter(int sum) {
            return kind == KIND_LEAST || kind == KIND_GREATEST ? total : sum + total;
        }
    }

    private static final class Phaser {
        int phase;
        /** By TASK; MODE 0 is one that is not REGISTERED. */
        final int[] modes;
        final int[] sent;
        final int[] seen;

        Phaser() {
            modes = new int[MOST_TASKS];
            sent = new int[MOST_TASKS];
            seen = new int[MOST_TASKS];
        }

        void reset() {
            phase = 0;
            Arrays.fill(modes, 0);
        }

        void join(int t, int mode) {
            modes[t] = mode;
            sent[t] = phase;
            seen[t] = phase;
        }

        void copy(int from, int to) {
            modes[to] = modes[from];
            sent[to] = sent[from];
            seen[to] = seen[from];
        }

        void leave(int t) {
            modes[t] = 0;
            raisePhase();
        }

        void signal(int t) {
            if ((modes[t] & MODE_SIGNAL) != 0) {
                sent[t]++;
                raisePhase();
            }
        }

        boolean holdsBack(int t) {
            return (modes[t] & MODE_WAIT) != 0 && phase <= seen[t];
        }

        void pass(int t) {
            if ((modes[t] & MODE_WAIT) != 0) {
                seen[t]++;
            }
        }

        private void raisePhase() {
            boolean isAny = false;
            int least = 0;
            for (int t = 0; t < MOST_TASKS; t++) {
                if ((modes[t] & MODE_SIGNAL) != 0 && (!isAny || sent[t] < least)) {
                    isAny = true;
                    least = sent[t];
                }
            }
            if (isAny && least > phase) {
                phase = least;
            }
        }
    }

    private static final class Task {
        final int number;
        final Scope[] own;
        int ownOpen;
        Scope home;
        int bodyNumber;
        int sum;
        int place;
        int state;
        int due;
        /** The FUTURE of a GET that waits, or of a TASK by WHEN that waits for its first PLACE. */
        int awaited;

        Task(int number, Scope home) {
            this.number = number;
            this.home = home;
            own = new Scope[MOST_OWN_SCOPES];
            for (int i = 0; i < MOST_OWN_SCOPES; i++) {
                own[i] = new Scope();
            }
        }

        void reset(int newBody, int newSum, Scope newHome) {
            bodyNumber = newBody;
            sum = newSum;
            home = newHome;
            place = 0;
            ownOpen = 0;
            state = IN_DEQUE;
            due = DUE_PLACE;
        }

        Scope innerScope() {
            return ownOpen > 0 ? own[ownOpen - 1] : home;
        }

        void waitFor(int newDue, int future) {
            state = WAITS;
            due = newDue;
            awaited = future;
        }
    }

    private static final class Worker {
        /** The DEQUE, the first one at 0. */
        final int[] deque;
        int size;
        int hand;

        Worker() {
            deque = new int[MOST_TASKS];
            hand = NO_TASK;
        }

        void reset() {
            size = 0;
            hand = NO_TASK;
        }

        int taskAt(int k) {
            return k >= 0 && k < size ? deque[k] : NO_TASK;
        }

        void append(int t) {
            if (size < MOST_TASKS) {
                deque[size] = t;
                size++;
            }
        }

        int takeLast() {
            int t = taskAt(size - 1);
            if (size > 0) {
                size--;
            }
            return t;
        }

        int takeFirst() {
            int t = taskAt(0);
            if (size > 0) {
                size--;
                System.arraycopy(deque, 1, deque, 0, size);
            }
            return t;
        }
    }

    /** All that a RUN holds; its rows are made once and used by each RUN of the object. */
    private static final class Run {
        final Body[] bodies;
        final Task[] tasks;
        int taskCount;
        final Scope root;
        final Phaser[] phasers;
        final Worker[] workers;
        int workerCount;
        boolean isNewFirst;
        final int[] values;
        final boolean[] isPut;
        final int[] spoken;
        int spokenCount;
        int ticks;
        int steps;
        int stolen;

        Run(Body[] bodies) {
            this.bodies = bodies;
            root = new Scope();
            tasks = new Task[MOST_TASKS];
            for (int t = 0; t < MOST_TASKS; t++) {
                tasks[t] = new Task(t, root);
            }
            phasers = new Phaser[PHASERS];
            for (int p = 0; p < PHASERS; p++) {
                phasers[p] = new Phaser();
            }
            workers = new Worker[MOST_WORKERS];
            for (int w = 0; w < MOST_WORKERS; w++) {
                workers[w] = new Worker();
            }
            values = new int[FUTURES];
            isPut = new boolean[FUTURES];
            spoken = new int[KEPT_NUMBERS];
        }

        void reset(int newWorkerCount, boolean newIsNewFirst) {
            workerCount = newWorkerCount;
            isNewFirst = newIsNewFirst;
            taskCount = 0;
            spokenCount = 0;
            ticks = 0;
            steps = 0;
            stolen = 0;
            root.open(KIND_SUM, 0);
            for (int f = 0; f < FUTURES; f++) {
                isPut[f] = false;
            }
            for (int p = 0; p < PHASERS; p++) {
                phasers[p].reset();
            }
            for (int w = 0; w < MOST_WORKERS; w++) {
                workers[w].reset();
            }
        }

        void beginFirst(int b, int sum) {
            tasks[0].reset(b, sum, root);
            taskCount = 1;
            root.unfinished = 1;
            workers[0].append(0);
        }

        boolean isBegun() {
            return taskCount > 0;
        }

        boolean isOver() {
            return isBegun() && root.unfinished == 0;
        }

        boolean isStuck() {
            for (int w = 0; w < workerCount; w++) {
                if (workers[w].hand != NO_TASK || workers[w].size > 0) {
                    return false;
                }
            }
            return isBegun() && !isOver();
        }

        void tick() {
            for (int w = 0; w < workerCount; w++) {
                if (workers[w].hand == NO_TASK) {
                    takeOne(w);
                } else {
                    step(workers[w]);
                }
            }
            ticks++;
        }

        private void takeOne(int w) {
            Worker worker = workers[w];
            worker.hand = worker.takeLast();
            for (int i = 1; i < workerCount && worker.hand == NO_TASK; i++) {
                worker.hand = workers[(w + i) % workerCount].takeFirst();
                if (worker.hand != NO_TASK) {
                    stolen++;
                }
            }
            if (worker.hand != NO_TASK) {
                tasks[worker.hand].state = AT_HAND;
            }
        }

        private void step(Worker worker) {
            Task task = tasks[worker.hand];
            int code = NO_CODE;
            if (task.due != DUE_PLACE) {
                code = finishWait(task);
            } else if (task.place < bodies[task.bodyNumber].size) {
                code = instruct(worker, task, bodies[task.bodyNumber]);
            } else {
                endInnermost(task);
            }
            if (code != NO_CODE) {
                task.innerScope().note(code);
                endInnermost(task);
            }
            if (task.state == WAITS || task.state == DONE) {
                worker.hand = NO_TASK;
            }
            wakeAll(worker);
            steps++;
        }

        /** Here and below, the answer of what a STEP does is the code that it THROWS, or NO_CODE. */
        private int finishWait(Task task) {
            switch (task.due) {
                case DUE_GET:
                    return get(task, task.awaited);
                case DUE_NEXT:
                    return passPhases(task);
                default:
                    return endScope(task);
            }
        }

        private int instruct(Worker worker, Task task, Body body) {
            int a = body.operands[task.place];
            int next = task.place + 1;
            int code = NO_CODE;
            switch (body.ops[task.place]) {
                case ADD:
                    task.sum += a;
                    break;
                case TIMES:
                    task.sum *= a;
                    break;
                case ASYNC:
                    code = spawn(worker, task, a, false);
                    break;
                case HANDS:
                    code = spawn(worker, task, a, true);
                    break;
                case OPEN:
                    code = openScope(task, a % KINDS, a / KINDS);
                    break;
                case CLOSE:
                    return close(task);
                case GIVE:
                    task.innerScope().give(task.sum);
                    break;
                case PUT:
                    code = put(a, task.sum);
                    break;
                case GET:
                    return get(task, a);
                case WHEN:
                    code = spawnWaiting(task, a / FUTURES, a % FUTURES);
                    break;
                case JOIN:
                    code = join(task, phasers[a / MODES], a % MODES);
                    break;
                case LEAVE:
                    code = leave(task, phasers[a]);
                    break;
                case NEXT:
                    signalAll(task);
                    return passPhases(task);
                case THROW:
                    return a;
                case SAY:
                    say(task.sum);
                    break;
                case IF:
                    next = task.sum != 0 ? a : next;
                    break;
                case GOTO:
                default:
                    next = a;
                    break;
            }
            task.place = code == NO_CODE ? next : task.place;
            return code;
        }

        private int spawn(Worker worker, Task maker, int b, boolean isRegisteredToo) {
            if (taskCount >= MOST_TASKS) {
                return CODE_TOO_MANY;
            }
            Task made = makeTask(maker, b);
            if (isRegisteredToo) {
                for (int p = 0; p < PHASERS; p++) {
                    phasers[p].copy(maker.number, made.number);
                }
            }
            if (isNewFirst) {
                made.state = AT_HAND;
                worker.hand = made.number;
                maker.state = IN_DEQUE;
                worker.append(maker.number);
            } else {
                worker.append(made.number);
            }
            return NO_CODE;
        }

        /** It WAITS even if the FUTURE was PUT: then its WAITING is over at the end of this very STEP. */
        private int spawnWaiting(Task maker, int b, int future) {
            if (taskCount >= MOST_TASKS) {
                return CODE_TOO_MANY;
            }
            makeTask(maker, b).waitFor(DUE_PLACE, future);
            return NO_CODE;
        }

        private Task makeTask(Task maker, int b) {
            Task made = tasks[taskCount];
            taskCount++;
            Scope scope = maker.innerScope();
            made.reset(b, maker.sum, scope);
            scope.unfinished++;
            return made;
        }

        private int openScope(Task task, int kind, int handler) {
            if (task.ownOpen >= MOST_OWN_SCOPES) {
                return CODE_TOO_MANY;
            }
            task.own[task.ownOpen].open(kind, handler);
            task.ownOpen++;
            return NO_CODE;
        }

        private int close(Task task) {
            if (task.ownOpen == 0) {
                return CODE_NO_SCOPE;
            }
            task.due = DUE_END_BY_CLOSE;
            return NO_CODE;
        }

        private int put(int f, int value) {
            if (isPut[f]) {
                return CODE_PUT_TWICE;
            }
            isPut[f] = true;
            values[f] = value;
            return NO_CODE;
        }

        private int get(Task task, int f) {
            if (!isPut[f]) {
                task.waitFor(DUE_GET, f);
                return NO_CODE;
            }
            task.sum += values[f];
            task.due = DUE_PLACE;
            task.place++;
            return NO_CODE;
        }

        private int join(Task task, Phaser phaser, int mode) {
            if (mode == 0 || phaser.modes[task.number] != 0) {
                return CODE_REGISTRATION;
            }
            phaser.join(task.number, mode);
            return NO_CODE;
        }

        private int leave(Task task, Phaser phaser) {
            if (phaser.modes[task.number] == 0) {
                return CODE_REGISTRATION;
            }
            phaser.leave(task.number);
            return NO_CODE;
        }

        private void signalAll(Task task) {
            for (int p = 0; p < PHASERS; p++) {
                phasers[p].signal(task.number);
            }
        }

        private int passPhases(Task task) {
            if (isHeldBack(task)) {
                task.waitFor(DUE_NEXT, 0);
                return NO_CODE;
            }
            for (int p = 0; p < PHASERS; p++) {
                phasers[p].pass(task.number);
            }
            task.due = DUE_PLACE;
            task.place++;
            return NO_CODE;
        }

        private boolean isHeldBack(Task task) {
            for (int p = 0; p < PHASERS; p++) {
                if (phasers[p].holdsBack(task.number)) {
                    return true;
                }
            }
            return false;
        }

        private void say(int number) {
            if (spokenCount < KEPT_NUMBERS) {
                spoken[spokenCount] = number;
            }
            spokenCount++;
        }

        private int endScope(Task task) {
            Scope scope = task.innerScope();
            if (scope.unfinished > 0) {
                task.state = WAITS;
                return NO_CODE;
            }
            boolean isByClose = task.due == DUE_END_BY_CLOSE;
            task.ownOpen--;
            task.due = DUE_PLACE;
            if (scope.noted == 0) {
                task.sum = scope.sumAfter(task.sum);
                task.place += isByClose ? 1 : 0;
                return NO_CODE;
            }
            if (scope.handler == 0) {
                return scope.leastNoted;
            }
            task.sum = scope.leastNoted;
            task.place = scope.handler;
            return NO_CODE;
        }

        /** The END of the BODY, or of what a code broke off: of the latest own SCOPE first, else of the TASK. */
        private void endInnermost(Task task) {
            if (task.ownOpen > 0) {
                task.due = DUE_END;
            } else {
                finish(task);
            }
        }

        private void finish(Task task) {
            task.state = DONE;
            for (int p = 0; p < PHASERS; p++) {
                phasers[p].leave(task.number);
            }
            task.home.unfinished--;
        }

        private void wakeAll(Worker worker) {
            for (int t = 0; t < taskCount; t++) {
                if (tasks[t].state == WAITS && isWaitOver(tasks[t])) {
                    tasks[t].state = IN_DEQUE;
                    worker.append(t);
                }
            }
        }

        private boolean isWaitOver(Task task) {
            switch (task.due) {
                case DUE_PLACE:
                case DUE_GET:
                    return isPut[task.awaited];
                case DUE_NEXT:
                    return !isHeldBack(task);
                default:
                    return task.innerScope().unfinished == 0;
            }
        }

        int answerOf(Task task, int what) {
            switch (what) {
                case 0:
                    return task.state;
                case 1:
                    return task.sum;
                case 2:
                    return task.place;
                case 3:
                    return task.bodyNumber;
                case 4:
                    return task.ownOpen;
                case 5:
                    return phasers[0].modes[task.number];
                default:
                    return phasers[1].modes[task.number];
            }
        }

        int figure(int what) {
            switch (what) {
                case 0:
                    return taskCount;
                case 1:
                    return unfinishedTasks();
                case 2:
                    return ticks;
                case 3:
                    return steps;
                case 4:
                    return stolen;
                case 5:
                    return spokenCount;
                case 6:
                    return root.noted;
                case 7:
                    return root.leastNoted;
                case 8:
                    return phasers[0].phase;
                case 9:
                    return phasers[1].phase;
                default:
                    return isOver() ? 1 : 0;
            }
        }

        private int unfinishedTasks() {
            int unfinished = 0;
            for (int t = 0; t < taskCount; t++) {
                if (tasks[t].state != DONE) {
                    unfinished++;
                }
            }
            return unfinished;
        }
    }
}
