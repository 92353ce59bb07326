d
e
f
 
w
s
L
_
o
u
t
T
 
:
 
L
i
s
t
 
C
o
n
d
 
:
=
 
.
c
o
d
e
W
i
t
h
 
y
L
_
o
u
t
 
c
L
_
o
u
t
 
4
 
(
s
o
m
e
 
.
i
n
t
)
 
[
(
0
,
 
9
,
 
1
2
,
 
5
7
)
]
 
:
:
 
(
w
s
L
_
o
u
t
.
t
a
i
l
 
+
+
 
(
v
x
_
a
t
S
 
R
X
1
0
 
2
0
4
 
"
j
a
v
a
/
l
a
n
g
/
A
r
r
a
y
I
n
d
e
x
O
u
t
O
f
B
o
u
n
d
s
E
x
c
e
p
t
i
o
n
"
 
[
"
j
a
v
a
/
l
a
n
g
/
I
n
d
e
x
O
u
t
O
f
B
o
u
n
d
s
E
x
c
e
p
t
i
o
n
"
,
 
"
j
a
v
a
/
l
a
n
g
/
R
u
n
t
i
m
e
E
x
c
e
p
t
i
o
n
"
,
 
"
j
a
v
a
/
l
a
n
g
/
E
x
c
e
p
t
i
o
n
"
]
)
.
f
i
l
t
e
r
 
g
o
o
d
W
o
r
d
)


t
h
e
o
r
e
m
 
g
g
T
L
_
o
u
t
_
X
1
0
_
o
u
t
 
:
 
G
o
o
d
I
n
 
w
s
L
_
o
u
t
T
 
w
s
X
1
0
_
o
u
t
T
 
:
=
 
f
u
n
 
w
 
h
w
 
=
>
 
(
L
i
s
t
.
m
e
m
_
c
o
n
s
.
m
p
 
h
w
)
.
e
l
i
m
 
(
f
u
n
 
e
 
=
>
 
b
y
 
r
w
 
[
e
]
;
 
e
x
a
c
t
 
(
g
o
o
d
I
n
_
m
o
r
e
 
(
B
 
:
=
 
(
v
x
_
a
t
S
 
R
X
1
0
 
2
0
4
 
"
j
a
v
a
/
l
a
n
g
/
A
r
r
a
y
I
n
d
e
x
O
u
t
O
f
B
o
u
n
d
s
E
x
c
e
p
t
i
o
n
"
 
[
"
j
a
v
a
/
l
a
n
g
/
I
n
d
e
x
O
u
t
O
f
B
o
u
n
d
s
E
x
c
e
p
t
i
o
n
"
,
 
"
j
a
v
a
/
l
a
n
g
/
R
u
n
t
i
m
e
E
x
c
e
p
t
i
o
n
"
,
 
"
j
a
v
a
/
l
a
n
g
/
E
x
c
e
p
t
i
o
n
"
]
)
.
f
i
l
t
e
r
 
g
o
o
d
W
o
r
d
)
 
g
g
L
_
o
u
t
_
X
1
0
_
o
u
t
)
 
_
 
L
i
s
t
.
m
e
m
_
c
o
n
s
_
s
e
l
f
)
 
(
f
u
n
 
h
 
=
>
 
(
L
i
s
t
.
m
e
m
_
a
p
p
e
n
d
.
m
p
 
h
)
.
e
l
i
m
 
(
f
u
n
 
h
 
=
>
 
(
g
o
o
d
I
n
_
m
o
r
e
 
(
B
 
:
=
 
(
v
x
_
a
t
S
 
R
X
1
0
 
2
0
4
 
"
j
a
v
a
/
l
a
n
g
/
A
r
r
a
y
I
n
d
e
x
O
u
t
O
f
B
o
u
n
d
s
E
x
c
e
p
t
i
o
n
"
 
[
"
j
a
v
a
/
l
a
n
g
/
I
n
d
e
x
O
u
t
O
f
B
o
u
n
d
s
E
x
c
e
p
t
i
o
n
"
,
 
"
j
a
v
a
/
l
a
n
g
/
R
u
n
t
i
m
e
E
x
c
e
p
t
i
o
n
"
,
 
"
j
a
v
a
/
l
a
n
g
/
E
x
c
e
p
t
i
o
n
"
]
)
.
f
i
l
t
e
r
 
g
o
o
d
W
o
r
d
)
 
g
g
L
_
o
u
t
_
X
1
0
_
o
u
t
)
 
w
 
(
L
i
s
t
.
m
e
m
_
c
o
n
s
_
o
f
_
m
e
m
 
_
 
h
)
)
 
(
f
u
n
 
h
 
=
>
 
⟨
L
i
s
t
.
m
e
m
_
c
o
n
s
_
o
f
_
m
e
m
 
_
 
(
L
i
s
t
.
m
e
m
_
a
p
p
e
n
d
_
r
i
g
h
t
 
_
 
h
)
,
 
g
o
o
d
_
o
f
_
w
o
r
d
 
(
L
i
s
t
.
m
e
m
_
f
i
l
t
e
r
.
m
p
 
h
)
.
2
⟩
)
)


t
h
e
o
r
e
m
 
g
T
L
_
o
u
t
_
X
1
0
_
o
u
t
 
:
 
G
o
o
d
I
n
 
w
s
L
_
o
u
t
T
 
(
w
s
V
 
R
L
 
5
3
 
R
X
1
0
 
y
X
1
0
_
o
u
t
 
w
s
X
1
0
_
o
u
t
T
)
 
:
=
 
g
o
o
d
I
n
_
a
p
p
 
(
g
o
o
d
I
n
_
o
f
 
_
 
(
b
y
 
d
e
c
i
d
e
 
+
k
e
r
n
e
l
)
)
 
g
g
T
L
_
o
u
t
_
X
1
0
_
o
u
t


t
h
e
o
r
e
m
 
g
o
o
d
I
n
_
a
p
l
 
{
T
 
B
 
w
s
 
:
 
L
i
s
t
 
C
o
n
d
}
 
(
h
 
:
 
G
o
o
d
I
n
 
T
 
w
s
)
 
:
 
G
o
o
d
I
n
 
(
T
 
+
+
 
B
)
 
w
s
 
:
=
 
f
u
n
 
w
 
h
w
 
=
>
 
⟨
L
i
s
t
.
m
e
m
_
a
p
p
e
n
d
_
l
e
f
t
 
_
 
(
h
 
w
 
h
w
)
.
1
,
 
(
h
 
w
 
h
w
)
.
2
⟩


d
e
f
 
w
s
L
_
l
a
w
T
 
:
 
L
i
s
t
 
C
o
n
d
 
:
=
 
w
s
L
_
l
a
w
 
+
+
 
(
v
x
_
a
t
S
 
R
X
1
0
 
2
0
4
 
"
j
a
v
a
/
l
a
n
g
/
A
r
r
a
y
I
n
d
e
x
O
u
t
O
f
B
o
u
n
d
s
E
x
c
e
p
t
i
o
n
"
 
[
"
j
a
v
a
/
l
a
n
g
/
I
n
d
e
x
O
u
t
O
f
B
o
u
n
d
s
E
x
c
e
p
t
i
o
n
"
,
 
"
j
a
v
a
/
l
a
n
g
/
R
u
n
t
i
m
e
E
x
c
e
p
t
i
o
n
"
,
 
"
j
a
v
a
/
l
a
n
g
/
E
x
c
e
p
t
i
o
n
"
]
)
.
f
i
l
t
e
r
 
g
o
o
d
W
o
r
d


